/-! EACH METHOD side by side: what it leaves is in the relation again -/
section SIM
variable {μ : mS} {κ : cS} {nw no nt wk : Nat}
theorem Sim.of (hM : Im μ nw wk no nt) (hI : Ic nw no nt wk κ) (h : sAt μ κ nw no nt (fun _ => wk)) : Sim μ κ nw no nt wk := ⟨hM, hI, h.1, h.2.1, h.2.2.1, h.2.2.2.1, h.2.2.2.2⟩
theorem Im.e {μ2 : mS} (h : Im μ nw wk no nt) (he : ∀ k, 1 ≤ k → μ2 k = μ k) : Im μ2 nw wk no nt := by
  obtain ⟨h1, h2, h3, h4, h5, h6, h7, h8, h9, h10, h11, h12, h13⟩ := h
  exact ⟨by rw [he 2 (by decide)]; exact h1, h2, by rw [he 1 (by decide)]; exact h3, h4, by rw [he 13 (by decide)]; exact h5, h6, by rw [he 21 (by decide)]; exact h7, h8, by rw [he 4 (by decide)]; exact h9, by rw [he 4 (by decide)]; exact h10, by rw [he 5 (by decide)]; exact h11, by rw [he 3 (by decide)]; exact h12, by rw [he 22 (by decide)]; exact h13⟩
theorem up2_0 {e : Int32} {k : Nat} (h : 1 ≤ k) : up2 μ 0 0 e k = μ k := up2_n (by omega)
theorem Sim.err (h : Sim μ κ nw no nt wk) (e : Int32) : Sim (up2 μ 0 0 e) κ nw no nt wk :=
  Sim.of (h.1.e (fun k hk => up2_0 hk)) h.2.1 (h.at.e (fun _ _ => Nat.le_refl _) (fun k hk => up2_0 (by omega)))
theorem sim_close (h : Sim μ κ nw no nt wk) (hk : wk < 31) : Sim (up2 (csA (up2 μ 0 0 0) wk no nw).1 1 0 (nI (wk + 1))) (csC κ nw no wk 8).1 nw no nt (wk + 1) ∧ (csC κ nw no wk 8).2 = (csA (up2 μ 0 0 0) wk no nw).2 := by
  have h0 := h.err 0
  have hn8 : nw ≤ 8 := h.2.1.1
  obtain ⟨r1, r2⟩ := clo_run h0.1 h0.2.1 h0.at hk nw (Nat.le_refl _)
  have e8 : csC κ nw no wk 8 = csC κ nw no wk nw := by
    have := csC_end (κ := κ) (nw := nw) (no := no) (wk := wk) (8 - nw)
    rw [show nw + (8 - nw) = 8 by omega] at this
    exact this
  rw [e8]
  refine ⟨Sim.of ?_ ?_ (r1.e (fun i hi => ?_) (fun k hk => up2_n (by omega))), r2⟩
  · have hM : Im (csA (up2 μ 0 0 0) wk no nw).1 nw wk no nt := Im_csA h0.1 nw
    obtain ⟨h1, h2, h3, h4, h5, h6, h7, h8, h9, h10, h11, h12, h13⟩ := hM
    exact ⟨by rw [up2_n (by decide)]; exact h1, h2, by rw [up2_s, va_up_s], by omega, by rw [up2_n (by decide)]; exact h5, h6, by rw [up2_n (by decide)]; exact h7, h8, by rw [up2_n (by decide)]; exact h9, by rw [up2_n (by decide)]; exact h10, by rw [up2_n (by decide)]; exact h11, by rw [up2_n (by decide)]; exact h12, by rw [up2_n (by decide)]; exact h13⟩
  · obtain ⟨h1, h2, h3, h4, a5, a6, a7, a8, a9, a10⟩ := (csC_ok (no := no) h.2.1 nw).1
    exact ⟨h1, h2, h3, by omega, a5, a6, a7, a8, a9, a10⟩
  · show vI wk nw i ≤ wk + 1
    unfold vI
    rw [if_pos hi]
    exact Nat.le_refl _
theorem sim_floor (h : Sim μ κ nw no nt wk) {p0 : Int32} (hp : inr p0 0 10000000) : Sim (up2 (up2 μ 0 0 0) 18 0 p0) (upF κ 0 0 (va_up (κ 0 0) 0 p0)) nw no nt wk := by
  obtain ⟨hM, hI, H1, H2, H3, H4, H5⟩ := h.err 0
  have mk : ∀ k, k ≠ 18 → up2 (up2 μ 0 0 0) 18 0 p0 k = up2 μ 0 0 0 k := fun k hk => up2_n hk
  have kk : ∀ k, k ≠ 0 → upF κ 0 0 (va_up (κ 0 0) 0 p0) k = κ k := fun k hk => funext fun _ => upF_k hk
  have e7 : (10000000 : Int32).toInt = 10000000 := by decide +kernel
  have hp1 := hp.1
  have hp2 := hp.2
  rw [Int32.le_iff_toInt_le, i_0] at hp1
  rw [Int32.le_iff_toInt_le, e7] at hp2
  refine Sim.of ?_ ?_ ⟨fun i hi => ?_, fun i i1 i2 => ?_, H3.cg (kk 2 (by decide)) (kk 3 (by decide)) (mk 5 (by decide)) (mk 6 (by decide)), ?_, H5.cg (kk 1 (by decide)) (kk 16 (by decide)) (mk 19 (by decide)) (mk 20 (by decide)) (mk 22 (by decide)) (mk 23 (by decide)) (mk 24 (by decide))⟩
  · obtain ⟨h1, h2, h3, h4, h5, h6, h7, h8, h9, h10, h11, h12, h13⟩ := hM
    exact ⟨by rw [mk 2 (by decide)]; exact h1, h2, by rw [mk 1 (by decide)]; exact h3, h4, by rw [mk 13 (by decide)]; exact h5, h6, by rw [mk 21 (by decide)]; exact h7, h8, by rw [mk 4 (by decide)]; exact h9, by rw [mk 4 (by decide)]; exact h10, by rw [mk 5 (by decide)]; exact h11, by rw [mk 3 (by decide)]; exact h12, by rw [mk 22 (by decide)]; exact h13⟩
  · exact hI.of (fun i => by rw [kk 4 (by decide)]) (fun i => by rw [kk 4 (by decide)]) (kk 7 (by decide)) (kk 5 (by decide)) (fun o => by rw [kk 15 (by decide)]) (kk 16 (by decide))
  · exact (H1 i hi).cg (Nat.le_refl _) (fun k k1 k2 => by rw [kk k (by omega)]) (by rw [mk 3 (by decide)]) (by rw [mk 10 (by decide)]) (by rw [mk 11 (by decide)]) (fun j _ _ => by rw [mk 4 (by decide)]) (fun j _ => by rw [mk 7 (by decide)]) (fun j _ => by rw [mk 8 (by decide)]) (fun j _ => by rw [mk 9 (by decide)]) (fun k p _ _ => by rw [mk 12 (by decide)])
  · exact (H2 i i1 i2).cg (by rw [mk 10 (by decide)]) (by rw [mk 11 (by decide)]) (fun j _ _ => by rw [mk 4 (by decide)]) (fun j _ => by rw [mk 7 (by decide)]) (fun k p _ _ => by rw [mk 12 (by decide)])
  · obtain ⟨O1, O2, O3, O4⟩ := H4
    refine ⟨fun i hi => by rw [kk 15 (by decide), mk 14 (by decide), mk 15 (by decide), mk 16 (by decide), mk 17 (by decide)]; exact O1 i hi, ?_, ?_, ?_⟩
    · rw [upF_s, va_up_s, up2_s, va_up_s]
    · rw [up2_s, va_up_s]; exact hp1
    · rw [up2_s, va_up_s]; exact hp2
end SIM
