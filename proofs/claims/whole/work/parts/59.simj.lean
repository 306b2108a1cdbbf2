section SIM2
variable {μ : mS} {κ : cS} {nw no nt wk : Nat}
theorem Im.cg {μ2 : mS} {no2 nt2 : Nat} (h : Im μ nw wk no nt) (e1 : μ2 1 = μ 1) (e2 : μ2 2 = μ 2) (e3 : μ2 3 = μ 3) (e4 : μ2 4 = μ 4) (e5 : μ2 5 = μ 5) (e13 : μ2 13 0 = nI no2) (h20 : no2 ≤ 20) (e21 : μ2 21 0 = nI nt2) (h40 : nt2 ≤ 40) (e22 : ∀ t, t < nt2 → ∃ e, e < 3 ∧ μ2 22 t = nI e) : Im μ2 nw wk no2 nt2 := by
  obtain ⟨h1, h2, h3, h4, h5, h6, h7, h8, h9, h10, h11, h12, h13⟩ := h
  exact ⟨by rw [e2]; exact h1, h2, by rw [e1]; exact h3, h4, e13, h20, e21, h40, by rw [e4]; exact h9, by rw [e4]; exact h10, by rw [e5]; exact h11, by rw [e3]; exact h12, e22⟩
theorem sim_order (h : Sim μ κ nw no nt wk) {w : Nat} {p0 p1 p2 p3 : Int32} (hw : w < nw) (hp : p0 = nI w) (h2 : inr p2 1 10000000) (h3 : inr p3 1 1000000) (hn : no < 20) :
    Sim (up2 (up2 (up2 (up2 (up2 (up2 μ 0 0 0) 14 no p0) 15 no p1) 16 no p2) 17 no p3) 13 0 (nI (no + 1))) (upF κ 15 no (orow w p1 p2 p3)) nw (no + 1) nt wk := by
  obtain ⟨hM, hI, H1, H2, H3, H4, H5⟩ := h
  have mk : ∀ k, (k ≠ 0 ∧ k ≠ 13 ∧ k ≠ 14 ∧ k ≠ 15 ∧ k ≠ 16 ∧ k ≠ 17) → up2 (up2 (up2 (up2 (up2 (up2 μ 0 0 0) 14 no p0) 15 no p1) 16 no p2) 17 no p3) 13 0 (nI (no + 1)) k = μ k := fun k ⟨a, b, c, d, e, f⟩ => by rw [up2_n b, up2_n f, up2_n e, up2_n d, up2_n c, up2_n a]
  have kk : ∀ k, k ≠ 15 → upF κ 15 no (orow w p1 p2 p3) k = κ k := fun k hk => funext fun _ => upF_k hk
  have m13 : up2 (up2 (up2 (up2 (up2 (up2 μ 0 0 0) 14 no p0) 15 no p1) 16 no p2) 17 no p3) 13 0 (nI (no + 1)) 13 0 = nI (no + 1) := by rw [up2_s, va_up_s]
  have m14 : up2 (up2 (up2 (up2 (up2 (up2 μ 0 0 0) 14 no p0) 15 no p1) 16 no p2) 17 no p3) 13 0 (nI (no + 1)) 14 = va_up (μ 14) no p0 := by rw [up2_n (by decide), up2_n (by decide), up2_n (by decide), up2_n (by decide), up2_s, up2_n (by decide)]
  have m15 : up2 (up2 (up2 (up2 (up2 (up2 μ 0 0 0) 14 no p0) 15 no p1) 16 no p2) 17 no p3) 13 0 (nI (no + 1)) 15 = va_up (μ 15) no p1 := by rw [up2_n (by decide), up2_n (by decide), up2_n (by decide), up2_s, up2_n (by decide), up2_n (by decide)]
  have m16 : up2 (up2 (up2 (up2 (up2 (up2 μ 0 0 0) 14 no p0) 15 no p1) 16 no p2) 17 no p3) 13 0 (nI (no + 1)) 16 = va_up (μ 16) no p2 := by rw [up2_n (by decide), up2_n (by decide), up2_s, up2_n (by decide), up2_n (by decide), up2_n (by decide)]
  have m17 : up2 (up2 (up2 (up2 (up2 (up2 μ 0 0 0) 14 no p0) 15 no p1) 16 no p2) 17 no p3) 13 0 (nI (no + 1)) 17 = va_up (μ 17) no p3 := by rw [up2_n (by decide), up2_s, up2_n (by decide), up2_n (by decide), up2_n (by decide), up2_n (by decide)]
  obtain ⟨ν, eν⟩ : ∃ z, z = up2 (up2 (up2 (up2 (up2 (up2 μ 0 0 0) 14 no p0) 15 no p1) 16 no p2) 17 no p3) 13 0 (nI (no + 1)) := ⟨_, rfl⟩
  rw [← eν] at mk m13 m14 m15 m16 m17 ⊢
  have q2 := h2.1
  have q3 := h3.1
  have e1 : (1 : Int32).toInt = 1 := by decide +kernel
  rw [Int32.le_iff_toInt_le, e1] at q2 q3
  refine Sim.of ?_ ?_ ⟨fun i hi => ?_, fun i i1 i2 => ?_, H3.cg (kk 2 (by decide)) (kk 3 (by decide)) (mk 5 (by decide)) (mk 6 (by decide)), ?_, H5.cg (kk 1 (by decide)) (kk 16 (by decide)) (mk 19 (by decide)) (mk 20 (by decide)) (mk 22 (by decide)) (mk 23 (by decide)) (mk 24 (by decide))⟩
  · exact hM.cg (mk 1 (by decide)) (mk 2 (by decide)) (mk 3 (by decide)) (mk 4 (by decide)) (mk 5 (by decide)) m13 (by omega) (by rw [mk 21 (by decide)]; exact hM.2.2.2.2.2.2.1) hM.2.2.2.2.2.2.2.1 (by rw [mk 22 (by decide)]; exact hM.2.2.2.2.2.2.2.2.2.2.2.2)
  · obtain ⟨a1, a2, a3, a4, a5, a6, a7, a8, a9, a10⟩ := hI
    refine ⟨a1, by omega, a3, a4, by rw [kk 4 (by decide)]; exact a5, by rw [kk 4 (by decide)]; exact a6, by rw [kk 7 (by decide)]; exact a7, by rw [kk 5 (by decide)]; exact a8, fun o ho => ?_, by rw [kk 16 (by decide)]; exact a10⟩
    by_cases q : o = no
    · subst q
      exact ⟨w, hw, by rw [upF_s]; rfl⟩
    · rw [upF_i q]
      exact a9 o (by omega)
  · exact (H1 i hi).cg (Nat.le_refl _) (fun k k1 k2 => by rw [kk k (by omega)]) (by rw [mk 3 (by decide)]) (by rw [mk 10 (by decide)]) (by rw [mk 11 (by decide)]) (fun j _ _ => by rw [mk 4 (by decide)]) (fun j _ => by rw [mk 7 (by decide)]) (fun j _ => by rw [mk 8 (by decide)]) (fun j _ => by rw [mk 9 (by decide)]) (fun k p _ _ => by rw [mk 12 (by decide)])
  · exact (H2 i i1 i2).cg (by rw [mk 10 (by decide)]) (by rw [mk 11 (by decide)]) (fun j _ _ => by rw [mk 4 (by decide)]) (fun j _ => by rw [mk 7 (by decide)]) (fun k p _ _ => by rw [mk 12 (by decide)])
  · obtain ⟨O1, O2, O3, O4⟩ := H4
    refine ⟨fun i hi => ?_, by rw [kk 0 (by decide), mk 18 (by decide)]; exact O2, by rw [mk 18 (by decide)]; exact O3, by rw [mk 18 (by decide)]; exact O4⟩
    rw [m14, m15, m16, m17]
    by_cases q : i = no
    · subst q
      rw [upF_s, va_up_s, va_up_s, va_up_s, va_up_s]
      exact ⟨hp.symm, rfl, rfl, rfl, by omega, by omega⟩
    · rw [upF_i q, va_up_n q, va_up_n q, va_up_n q, va_up_n q]
      exact O1 i (by omega)
end SIM2
