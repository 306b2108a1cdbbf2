section SIM4
variable {μ : mS} {κ : cS} {nw no nt wk : Nat}
theorem sim_bounce (h : Sim μ κ nw no nt wk) {j ev : Nat} (hj : j < nt) (he : ev < 3) :
    Sim (up2 (up2 (up2 (up2 μ 0 0 0) 24 j 1) 19 ev (μ 19 ev - (lst (μ 23 j) (μ 19 ev)))) 20 ev (μ 20 ev + (μ 23 j - (lst (μ 23 j) (μ 19 ev)))))
      (upF (upF κ 16 j (va_up (κ 16 j) 2 1)) 1 ev (va_up (va_up ((upF κ 16 j (va_up (κ 16 j) 2 1)) 1 ev) 0 (κ 1 ev 0 - (if κ 16 j 1 < κ 1 ev 0 then κ 16 j 1 else κ 1 ev 0))) 1 (κ 1 ev 1 + (κ 16 j 1 - (if κ 16 j 1 < κ 1 ev 0 then κ 16 j 1 else κ 1 ev 0))))) nw no nt wk
    ∧ κ 1 ev 1 + (κ 16 j 1 - (if κ 16 j 1 < κ 1 ev 0 then κ 16 j 1 else κ 1 ev 0)) = μ 20 ev + (μ 23 j - (lst (μ 23 j) (μ 19 ev))) := by
  obtain ⟨hM, hI, H1, H2, H3, H4, H5⟩ := h
  obtain ⟨P1, P2, P3⟩ := H5
  have h40 : nt ≤ 40 := hI.2.2.1
  obtain ⟨x2, ex2⟩ : ∃ z, z = μ 19 ev - (lst (μ 23 j) (μ 19 ev)) := ⟨_, rfl⟩
  obtain ⟨x1, ex1⟩ : ∃ z, z = μ 20 ev + (μ 23 j - (lst (μ 23 j) (μ 19 ev))) := ⟨_, rfl⟩
  have y1 : κ 1 ev 1 + (κ 16 j 1 - (if κ 16 j 1 < κ 1 ev 0 then κ 16 j 1 else κ 1 ev 0)) = x1 := by rw [ex1, (P1 ev he).2, (P1 ev he).1, (P2 j hj).2.1]; rfl
  have y2 : κ 1 ev 0 - (if κ 16 j 1 < κ 1 ev 0 then κ 16 j 1 else κ 1 ev 0) = x2 := by rw [ex2, (P1 ev he).1, (P2 j hj).2.1]; rfl
  rw [y1, y2, ← ex1, ← ex2]
  refine ⟨?_, rfl⟩
  have mk : ∀ k, (k ≠ 0 ∧ k ≠ 19 ∧ k ≠ 20 ∧ k ≠ 24) → up2 (up2 (up2 (up2 μ 0 0 0) 24 j 1) 19 ev x2) 20 ev x1 k = μ k := fun k ⟨a, b, c, d⟩ => by rw [up2_n c, up2_n b, up2_n d, up2_n a]
  have kk : ∀ k, k ≠ 1 → k ≠ 16 → upF (upF κ 16 j (va_up (κ 16 j) 2 1)) 1 ev (va_up (va_up ((upF κ 16 j (va_up (κ 16 j) 2 1)) 1 ev) 0 x2) 1 x1) k = κ k := fun k h1 h2 => funext fun _ => by rw [upF_k h1, upF_k h2]
  have m24 : up2 (up2 (up2 (up2 μ 0 0 0) 24 j 1) 19 ev x2) 20 ev x1 24 = va_up (μ 24) j 1 := by rw [up2_n (by decide), up2_n (by decide), up2_s, up2_n (by decide)]
  have m19 : up2 (up2 (up2 (up2 μ 0 0 0) 24 j 1) 19 ev x2) 20 ev x1 19 = va_up (μ 19) ev x2 := by rw [up2_n (by decide), up2_s, up2_n (by decide), up2_n (by decide)]
  have m20 : up2 (up2 (up2 (up2 μ 0 0 0) 24 j 1) 19 ev x2) 20 ev x1 20 = va_up (μ 20) ev x1 := by rw [up2_s, up2_n (by decide), up2_n (by decide), up2_n (by decide)]
  have k16 : upF (upF κ 16 j (va_up (κ 16 j) 2 1)) 1 ev (va_up (va_up ((upF κ 16 j (va_up (κ 16 j) 2 1)) 1 ev) 0 x2) 1 x1) 16 = upF κ 16 j (va_up (κ 16 j) 2 1) 16 := funext fun _ => upF_k (by decide)
  have k1 : upF κ 16 j (va_up (κ 16 j) 2 1) 1 = κ 1 := funext fun _ => upF_k (by decide)
  obtain ⟨ν, eν⟩ : ∃ z, z = up2 (up2 (up2 (up2 μ 0 0 0) 24 j 1) 19 ev x2) 20 ev x1 := ⟨_, rfl⟩
  rw [← eν] at mk m19 m20 m24 ⊢
  refine Sim.of ?_ ?_ ⟨fun i hi => ?_, fun i i1 i2 => ?_, H3.cg (kk 2 (by decide) (by decide)) (kk 3 (by decide) (by decide)) (mk 5 (by decide)) (mk 6 (by decide)), H4.cg (kk 15 (by decide) (by decide)) (kk 0 (by decide) (by decide)) (mk 14 (by decide)) (mk 15 (by decide)) (mk 16 (by decide)) (mk 17 (by decide)) (mk 18 (by decide)), ?_⟩
  · exact hM.cg (mk 1 (by decide)) (mk 2 (by decide)) (mk 3 (by decide)) (mk 4 (by decide)) (mk 5 (by decide)) (by rw [mk 13 (by decide)]; exact hM.2.2.2.2.1) hM.2.2.2.2.2.1 (by rw [mk 21 (by decide)]; exact hM.2.2.2.2.2.2.1) h40 (by rw [mk 22 (by decide)]; exact hM.2.2.2.2.2.2.2.2.2.2.2.2)
  · obtain ⟨a1, a2, a3, a4, a5, a6, a7, a8, a9, a10⟩ := hI
    refine ⟨a1, a2, a3, a4, by rw [kk 4 (by decide) (by decide)]; exact a5, by rw [kk 4 (by decide) (by decide)]; exact a6, by rw [kk 7 (by decide) (by decide)]; exact a7, by rw [kk 5 (by decide) (by decide)]; exact a8, by rw [kk 15 (by decide) (by decide)]; exact a9, fun t ht => ?_⟩
    rw [k16, upF_e (by omega)]
    exact a10 t ht
  · exact (H1 i hi).cg (Nat.le_refl _) (fun k k1 k2 => by rw [kk k (by omega) (by omega)]) (by rw [mk 3 (by decide)]) (by rw [mk 10 (by decide)]) (by rw [mk 11 (by decide)]) (fun j _ _ => by rw [mk 4 (by decide)]) (fun j _ => by rw [mk 7 (by decide)]) (fun j _ => by rw [mk 8 (by decide)]) (fun j _ => by rw [mk 9 (by decide)]) (fun k p _ _ => by rw [mk 12 (by decide)])
  · exact (H2 i i1 i2).cg (by rw [mk 10 (by decide)]) (by rw [mk 11 (by decide)]) (fun j _ _ => by rw [mk 4 (by decide)]) (fun j _ => by rw [mk 7 (by decide)]) (fun k p _ _ => by rw [mk 12 (by decide)])
  · refine ⟨fun e e3 => ?_, fun i hi => ?_, fun i i1 i2 => by rw [m24, va_up_n (by omega)]; exact P3 i i1 i2⟩
    · rw [m19, m20]
      by_cases q : e = ev
      · subst q
        rw [upF_s, va_up_n (by decide), va_up_s, va_up_s, va_up_s, va_up_s]
        exact ⟨rfl, rfl⟩
      · rw [upF_i q, k1, va_up_n q, va_up_n q]
        exact P1 e e3
    · rw [k16, mk 22 (by decide), mk 23 (by decide), m24]
      by_cases q : i = j
      · subst q
        rw [upF_s, va_up_n (by decide), va_up_n (by decide), va_up_s, va_up_s]
        exact ⟨(P2 i hi).1, (P2 i hi).2.1, rfl⟩
      · rw [upF_i q, va_up_n q]
        exact P2 i hi
end SIM4
