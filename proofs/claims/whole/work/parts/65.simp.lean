theorem tlV_or {t : Nat → Int32} {v : Int32} : ∀ (n i : Nat) (g : Nat → Int32) (k : Nat), tlV t v n i g k = v ∨ tlV t v n i g k = g k
  | 0, _, _, _ => Or.inr rfl
  | n + 1, i, g, k => by
    unfold tlV
    by_cases z : t i = 0
    · rw [if_pos z]
      rcases tlV_or (t := t) (v := v) n (i + 1) (va_up g i v) k with e | e
      · exact Or.inl e
      · rw [e]
        by_cases q : k = i
        · rw [q, va_up_s]; exact Or.inl rfl
        · rw [va_up_n q]; exact Or.inr rfl
    · rw [if_neg z]; exact Or.inr rfl
section SIM8
variable {μ : mS} {κ : cS} {nw no nt wk : Nat}
theorem inr_1e4 {p : Int32} (h : inr p 0 10000) : 0 ≤ p.toInt ∧ p.toInt ≤ 10000 := by
  have e : (10000 : Int32).toInt = 10000 := by decide +kernel
  have h1 := h.1
  have h2 := h.2
  rw [Int32.le_iff_toInt_le, i_0] at h1
  rw [Int32.le_iff_toInt_le, e] at h2
  exact ⟨h1, h2⟩
theorem inr_nm1 {p : Int32} (h : inr p 0 10000) : ¬ p = -1 := by
  intro z
  have e : (-1 : Int32).toInt = -1 := by decide +kernel
  have := (inr_1e4 h).1
  rw [z, e] at this
  omega
theorem tl_row {t g : Nat → Int32} {v : Int32} {kv k : Nat} (n i : Nat) (hv : 0 ≤ v.toInt ∧ v.toInt ≤ 10000) (hg : 0 ≤ (g k).toInt ∧ (g k).toInt ≤ 10000) : 0 ≤ (tlV t v n i (va_up g kv v) k).toInt ∧ (tlV t v n i (va_up g kv v) k).toInt ≤ 10000 := by
  rcases tlV_or (t := t) (v := v) n i (va_up g kv v) k with e | e
  · rw [e]; exact hv
  · rw [e]
    by_cases q : k = kv
    · rw [q, va_up_s]; exact hv
    · rw [va_up_n q]; exact hg
theorem sim_setRates (h : Sim μ κ nw no nt wk) {rv kv : Nat} {p2 p3 : Int32} (hr : rv < 3) (hk : kv ≤ 30) (h2 : inr p2 0 10000) (h3 : inr p3 0 10000) :
    Sim (up2 (up2 (up2 μ 0 0 0) 5 (31 * rv + kv) p2) 6 (31 * rv + kv) p3) (tellK (tellK κ 2 3 (2 * rv) kv p2) 2 3 (2 * rv + 1) kv p3) nw no nt wk := by
  obtain ⟨hM, hI, H1, H2, H3, H4, H5⟩ := h
  have mk : ∀ k, (k ≠ 0 ∧ k ≠ 5 ∧ k ≠ 6) → up2 (up2 (up2 μ 0 0 0) 5 (31 * rv + kv) p2) 6 (31 * rv + kv) p3 k = μ k := fun k ⟨a, b, c⟩ => by rw [up2_n c, up2_n b, up2_n a]
  have m5 : up2 (up2 (up2 μ 0 0 0) 5 (31 * rv + kv) p2) 6 (31 * rv + kv) p3 5 = va_up (μ 5) (31 * rv + kv) p2 := by rw [up2_n (by decide), up2_s, up2_n (by decide)]
  have m6 : up2 (up2 (up2 μ 0 0 0) 5 (31 * rv + kv) p2) 6 (31 * rv + kv) p3 6 = va_up (μ 6) (31 * rv + kv) p3 := by rw [up2_s, up2_n (by decide), up2_n (by decide)]
  have kk : ∀ k, k ≠ 2 → k ≠ 3 → tellK (tellK κ 2 3 (2 * rv) kv p2) 2 3 (2 * rv + 1) kv p3 k = κ k := fun k a b => funext fun _ => by
    unfold tellK
    rw [upF_k a, upF_k b, upF_k a, upF_k b]
  have ki : ∀ k i, i ≠ 2 * rv → i ≠ 2 * rv + 1 → tellK (tellK κ 2 3 (2 * rv) kv p2) 2 3 (2 * rv + 1) kv p3 k i = κ k i := fun k i a b => by
    unfold tellK
    rw [upF_i b, upF_i b, upF_i a, upF_i a]
  have e1 : ∀ k, tellK (tellK κ 2 3 (2 * rv) kv p2) 2 3 (2 * rv + 1) kv p3 k (2 * rv) = tellK κ 2 3 (2 * rv) kv p2 k (2 * rv) := fun k => by
    conv => lhs; unfold tellK
    rw [upF_i (by omega), upF_i (by omega)]
    rfl
  have e2 : ∀ k, tellK κ 2 3 (2 * rv) kv p2 k (2 * rv + 1) = κ k (2 * rv + 1) := fun k => by
    unfold tellK
    rw [upF_i (by omega), upF_i (by omega)]
  have k2a : tellK (tellK κ 2 3 (2 * rv) kv p2) 2 3 (2 * rv + 1) kv p3 2 (2 * rv) = tlV (va_up (κ 3 (2 * rv)) kv 1) p2 (30 - kv) (kv + 1) (va_up (κ 2 (2 * rv)) kv p2) := by
    rw [e1]
    unfold tellK
    rw [upF_s]
  have k3a : tellK (tellK κ 2 3 (2 * rv) kv p2) 2 3 (2 * rv + 1) kv p3 3 (2 * rv) = va_up (κ 3 (2 * rv)) kv 1 := by
    rw [e1]
    unfold tellK
    rw [upF_k (by decide), upF_s]
  have k2b : tellK (tellK κ 2 3 (2 * rv) kv p2) 2 3 (2 * rv + 1) kv p3 2 (2 * rv + 1) = tlV (va_up (κ 3 (2 * rv + 1)) kv 1) p3 (30 - kv) (kv + 1) (va_up (κ 2 (2 * rv + 1)) kv p3) := by
    obtain ⟨ζ, eζ⟩ : ∃ z, z = tellK κ 2 3 (2 * rv) kv p2 := ⟨_, rfl⟩
    rw [← eζ] at e2 ⊢
    unfold tellK
    rw [upF_s, e2, e2]
  have k3b : tellK (tellK κ 2 3 (2 * rv) kv p2) 2 3 (2 * rv + 1) kv p3 3 (2 * rv + 1) = va_up (κ 3 (2 * rv + 1)) kv 1 := by
    obtain ⟨ζ, eζ⟩ : ∃ z, z = tellK κ 2 3 (2 * rv) kv p2 := ⟨_, rfl⟩
    rw [← eζ] at e2 ⊢
    unfold tellK
    rw [upF_k (by decide), upF_s, e2]
  obtain ⟨ν, eν⟩ : ∃ z, z = up2 (up2 (up2 μ 0 0 0) 5 (31 * rv + kv) p2) 6 (31 * rv + kv) p3 := ⟨_, rfl⟩
  obtain ⟨κ9, eκ⟩ : ∃ z, z = tellK (tellK κ 2 3 (2 * rv) kv p2) 2 3 (2 * rv + 1) kv p3 := ⟨_, rfl⟩
  rw [← eν] at mk m5 m6 ⊢
  rw [← eκ] at kk ki k2a k3a k2b k3b ⊢
  obtain ⟨R1, R2, R3⟩ := H3
  have ha := (R1 rv hr).1.tell (kv := kv) (v := p2) (by omega) (inr_nm1 h2)
  have hb := (R1 rv hr).2.tell (kv := kv) (v := p3) (by omega) (inr_nm1 h3)
  rw [← k2a, ← k3a, ← m5] at ha
  rw [← k2b, ← k3b, ← m6] at hb
  refine Sim.of ?_ (hI.of (fun i => by rw [kk 4 (by decide) (by decide)]) (fun i => by rw [kk 4 (by decide) (by decide)]) (kk 7 (by decide) (by decide)) (kk 5 (by decide) (by decide)) (fun o => by rw [kk 15 (by decide) (by decide)]) (kk 16 (by decide) (by decide))) ⟨fun i hi => ?_, fun i i1 i2 => ?_, ⟨fun r hr3 => ?_, fun i => ?_, fun r k hr6 hk31 => ?_⟩, H4.cg (kk 15 (by decide) (by decide)) (kk 0 (by decide) (by decide)) (mk 14 (by decide)) (mk 15 (by decide)) (mk 16 (by decide)) (mk 17 (by decide)) (mk 18 (by decide)), H5.cg (kk 1 (by decide) (by decide)) (kk 16 (by decide) (by decide)) (mk 19 (by decide)) (mk 20 (by decide)) (mk 22 (by decide)) (mk 23 (by decide)) (mk 24 (by decide))⟩
  · obtain ⟨a1, a2, a3, a4, a5, a6, a7, a8, a9, a10, a11, a12, a13⟩ := hM
    refine ⟨by rw [mk 2 (by decide)]; exact a1, a2, by rw [mk 1 (by decide)]; exact a3, a4, by rw [mk 13 (by decide)]; exact a5, a6, by rw [mk 21 (by decide)]; exact a7, a8, by rw [mk 4 (by decide)]; exact a9, by rw [mk 4 (by decide)]; exact a10, fun r hr3 => ?_, by rw [mk 3 (by decide)]; exact a12, by rw [mk 22 (by decide)]; exact a13⟩
    rw [m5]
    by_cases q : 31 * r = 31 * rv + kv
    · rw [q, va_up_s]; exact inr_nm1 h2
    · rw [va_up_n q]; exact a11 r hr3
  · exact (H1 i hi).cg (Nat.le_refl _) (fun k k1 k2 => by rw [kk k (by omega) (by omega)]) (by rw [mk 3 (by decide)]) (by rw [mk 10 (by decide)]) (by rw [mk 11 (by decide)]) (fun j _ _ => by rw [mk 4 (by decide)]) (fun j _ => by rw [mk 7 (by decide)]) (fun j _ => by rw [mk 8 (by decide)]) (fun j _ => by rw [mk 9 (by decide)]) (fun k p _ _ => by rw [mk 12 (by decide)])
  · exact (H2 i i1 i2).cg (by rw [mk 10 (by decide)]) (by rw [mk 11 (by decide)]) (fun j _ _ => by rw [mk 4 (by decide)]) (fun j _ => by rw [mk 7 (by decide)]) (fun k p _ _ => by rw [mk 12 (by decide)])
  · by_cases q : r = rv
    · subst q
      exact ⟨ha, hb⟩
    · obtain ⟨u1, u2⟩ := R1 r hr3
      rw [ki 2 (2 * r) (by omega) (by omega), ki 3 (2 * r) (by omega) (by omega), ki 2 (2 * r + 1) (by omega) (by omega), ki 3 (2 * r + 1) (by omega) (by omega)]
      exact ⟨u1.other (fun j j1 j2 => by rw [m5, va_up_n (by omega)]), u2.other (fun j j1 j2 => by rw [m6, va_up_n (by omega)])⟩
  · rw [m5, m6]
    by_cases q : i = 31 * rv + kv
    · rw [q, va_up_s, va_up_s]
      exact ⟨fun z => absurd z (inr_nm1 h2), fun z => absurd z (inr_nm1 h3)⟩
    · rw [va_up_n q, va_up_n q]
      exact R2 i
  · by_cases q : r = 2 * rv
    · subst q
      rw [k2a]
      exact tl_row _ _ (inr_1e4 h2) (R3 _ k hr6 hk31)
    · by_cases q2 : r = 2 * rv + 1
      · subst q2
        rw [k2b]
        exact tl_row _ _ (inr_1e4 h3) (R3 _ k hr6 hk31)
      · rw [ki 2 r q q2]
        exact R3 r k hr6 hk31
end SIM8
