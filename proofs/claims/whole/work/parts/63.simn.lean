section SIM6
variable {μ : mS} {κ : cS} {nw no nt wk : Nat}
theorem inr_100 {p : Int32} (h : inr p 0 100) : 0 ≤ p.toInt ∧ p.toInt ≤ 100 := by
  have e : (100 : Int32).toInt = 100 := by decide +kernel
  have h1 := h.1
  have h2 := h.2
  rw [Int32.le_iff_toInt_le, i_0] at h1
  rw [Int32.le_iff_toInt_le, e] at h2
  exact ⟨h1, h2⟩
theorem sim_correct (h : Sim μ κ nw no nt wk) {w s : Nat} {p2 p3 : Int32} (hw : w < nw) (hs : s ≤ 19) (h2 : inr p2 0 100) (h3 : inr p3 0 100) :
    Sim (up2 (up2 (up2 μ 0 0 0) 8 (20 * w + s) p2) 9 (20 * w + s) p3) (upF (upF κ 8 w (va_up (κ 8 w) s p2)) 9 w (va_up (upF κ 8 w (va_up (κ 8 w) s p2) 9 w) s p3)) nw no nt wk := by
  obtain ⟨hM, hI, H1, H2, H3, H4, H5⟩ := h
  have mk : ∀ k, (k ≠ 0 ∧ k ≠ 8 ∧ k ≠ 9) → up2 (up2 (up2 μ 0 0 0) 8 (20 * w + s) p2) 9 (20 * w + s) p3 k = μ k := fun k ⟨a, b, c⟩ => by rw [up2_n c, up2_n b, up2_n a]
  have m8 : up2 (up2 (up2 μ 0 0 0) 8 (20 * w + s) p2) 9 (20 * w + s) p3 8 = va_up (μ 8) (20 * w + s) p2 := by rw [up2_n (by decide), up2_s, up2_n (by decide)]
  have m9 : up2 (up2 (up2 μ 0 0 0) 8 (20 * w + s) p2) 9 (20 * w + s) p3 9 = va_up (μ 9) (20 * w + s) p3 := by rw [up2_s, up2_n (by decide), up2_n (by decide)]
  have kk : ∀ k, k ≠ 8 → k ≠ 9 → upF (upF κ 8 w (va_up (κ 8 w) s p2)) 9 w (va_up (upF κ 8 w (va_up (κ 8 w) s p2) 9 w) s p3) k = κ k := fun k a b => funext fun _ => by rw [upF_k b, upF_k a]
  have k8 : upF (upF κ 8 w (va_up (κ 8 w) s p2)) 9 w (va_up (upF κ 8 w (va_up (κ 8 w) s p2) 9 w) s p3) 8 w = va_up (κ 8 w) s p2 := by rw [upF_k (by decide), upF_s]
  have k9 : upF (upF κ 8 w (va_up (κ 8 w) s p2)) 9 w (va_up (upF κ 8 w (va_up (κ 8 w) s p2) 9 w) s p3) 9 w = va_up (κ 9 w) s p3 := by rw [upF_s, upF_k (by decide)]
  have ki : ∀ k i, i ≠ w → upF (upF κ 8 w (va_up (κ 8 w) s p2)) 9 w (va_up (upF κ 8 w (va_up (κ 8 w) s p2) 9 w) s p3) k i = κ k i := fun k i hi => by rw [upF_i hi, upF_i hi]
  obtain ⟨ν, eν⟩ : ∃ z, z = up2 (up2 (up2 μ 0 0 0) 8 (20 * w + s) p2) 9 (20 * w + s) p3 := ⟨_, rfl⟩
  obtain ⟨κ9, eκ⟩ : ∃ z, z = upF (upF κ 8 w (va_up (κ 8 w) s p2)) 9 w (va_up (upF κ 8 w (va_up (κ 8 w) s p2) 9 w) s p3) := ⟨_, rfl⟩
  rw [← eν] at mk m8 m9 ⊢
  rw [← eκ] at kk k8 k9 ki ⊢
  refine Sim.of ?_ (hI.of (fun i => by rw [kk 4 (by decide) (by decide)]) (fun i => by rw [kk 4 (by decide) (by decide)]) (kk 7 (by decide) (by decide)) (kk 5 (by decide) (by decide)) (fun o => by rw [kk 15 (by decide) (by decide)]) (kk 16 (by decide) (by decide))) ⟨fun i hi => ?_, fun i i1 i2 => ?_, H3.cg (kk 2 (by decide) (by decide)) (kk 3 (by decide) (by decide)) (mk 5 (by decide)) (mk 6 (by decide)), H4.cg (kk 15 (by decide) (by decide)) (kk 0 (by decide) (by decide)) (mk 14 (by decide)) (mk 15 (by decide)) (mk 16 (by decide)) (mk 17 (by decide)) (mk 18 (by decide)), H5.cg (kk 1 (by decide) (by decide)) (kk 16 (by decide) (by decide)) (mk 19 (by decide)) (mk 20 (by decide)) (mk 22 (by decide)) (mk 23 (by decide)) (mk 24 (by decide))⟩
  · exact hM.cg (mk 1 (by decide)) (mk 2 (by decide)) (mk 3 (by decide)) (mk 4 (by decide)) (mk 5 (by decide)) (by rw [mk 13 (by decide)]; exact hM.2.2.2.2.1) hM.2.2.2.2.2.1 (by rw [mk 21 (by decide)]; exact hM.2.2.2.2.2.2.1) hM.2.2.2.2.2.2.2.1 (by rw [mk 22 (by decide)]; exact hM.2.2.2.2.2.2.2.2.2.2.2.2)
  · by_cases q : i = w
    · subst q
      obtain ⟨g1, g2, g3, g4, g5, g6, g7, g8, g9, g10, g11, g12⟩ := H1 i hi
      have hcn : cnM ν i = cnM μ i := by unfold cnM; rw [mk 7 (by decide)]
      have hsp : spC κ9 i = spC κ i := by
        funext k p
        unfold spC
        rw [kk 10 (by decide) (by decide), kk (11 + p) (by omega) (by omega)]
      refine ⟨by rw [kk 4 (by decide) (by decide), mk 3 (by decide)]; exact g1, by rw [kk 4 (by decide) (by decide), hcn]; exact g2, by rw [kk 4 (by decide) (by decide), mk 10 (by decide)]; exact g3, by rw [kk 4 (by decide) (by decide), mk 11 (by decide)]; exact g4, by rw [kk 4 (by decide) (by decide)]; exact g5, by rw [kk 4 (by decide) (by decide)]; exact g6, by rw [kk 5 (by decide) (by decide), kk 6 (by decide) (by decide), mk 4 (by decide)]; exact g7, ?_, ?_, by rw [hsp, mk 12 (by decide)]; exact g10, by rw [kk 10 (by decide) (by decide)]; exact g11, by rw [kk 4 (by decide) (by decide), hsp]; exact g12⟩
      · intro t ht
        obtain ⟨u1, u2⟩ := g8 t ht
        rw [kk 7 (by decide) (by decide), k8, k9, mk 7 (by decide), m8, m9]
        refine ⟨u1, fun z => ?_⟩
        by_cases q : t = s
        · subst q
          rw [va_up_s, va_up_s, va_up_s, va_up_s]
          exact ⟨rfl, rfl⟩
        · rw [va_up_n q, va_up_n q, va_up_n (by omega), va_up_n (by omega)]
          exact u2 z
      · intro t ht z
        rw [kk 7 (by decide) (by decide)] at z
        rw [k8, k9]
        by_cases q : t = s
        · subst q
          rw [va_up_s, va_up_s]
          exact ⟨(inr_100 h2).1, (inr_100 h2).2, inr_100 h3⟩
        · rw [va_up_n q, va_up_n q]
          exact g9 t ht z
    · exact (H1 i hi).cg (Nat.le_refl _) (fun k k1 k2 => ki k i q) (by rw [mk 3 (by decide)]) (by rw [mk 10 (by decide)]) (by rw [mk 11 (by decide)]) (fun j _ _ => by rw [mk 4 (by decide)]) (fun j _ => by rw [mk 7 (by decide)]) (fun j hj => by rw [m8, va_up_n (by omega)]) (fun j hj => by rw [m9, va_up_n (by omega)]) (fun k p _ _ => by rw [mk 12 (by decide)])
  · exact (H2 i i1 i2).cg (by rw [mk 10 (by decide)]) (by rw [mk 11 (by decide)]) (fun j _ _ => by rw [mk 4 (by decide)]) (fun j _ => by rw [mk 7 (by decide)]) (fun k p _ _ => by rw [mk 12 (by decide)])
end SIM6
