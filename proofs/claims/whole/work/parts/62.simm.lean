section SIM5
variable {μ : mS} {κ : cS} {nw no nt wk : Nat}
theorem cntM_none {r : Nat → Int32} {b : Nat} : ∀ n, 0 < n → r (b + 0) = -1 → cntM r b n 0 = 0
  | 0, h, _ => by omega
  | n + 1, _, h => by
    unfold cntM
    rw [if_pos h]
theorem sim_addWorker (h : Sim μ κ nw no nt wk) {ev : Nat} {p0 : Int32} (he : ev < 3) (hp : p0 = nI ev) (hn : nw < 8) :
    Sim (up2 (up2 (up2 μ 0 0 0) 3 nw p0) 2 0 (nI (nw + 1))) (nwK κ nw ev) (nw + 1) no nt wk := by
  obtain ⟨hM, hI, H1, H2, H3, H4, H5⟩ := h
  have mk : ∀ k, (k ≠ 0 ∧ k ≠ 2 ∧ k ≠ 3) → up2 (up2 (up2 μ 0 0 0) 3 nw p0) 2 0 (nI (nw + 1)) k = μ k := fun k ⟨a, b, c⟩ => by rw [up2_n b, up2_n c, up2_n a]
  have m3 : up2 (up2 (up2 μ 0 0 0) 3 nw p0) 2 0 (nI (nw + 1)) 3 = va_up (μ 3) nw p0 := by rw [up2_n (by decide), up2_s, up2_n (by decide)]
  have m2 : up2 (up2 (up2 μ 0 0 0) 3 nw p0) 2 0 (nI (nw + 1)) 2 0 = nI (nw + 1) := by rw [up2_s, va_up_s]
  have kk : ∀ k, (k ≠ 4 ∧ k ≠ 5 ∧ k ≠ 6 ∧ k ≠ 7 ∧ k ≠ 10) → nwK κ nw ev k = κ k := fun k ⟨a, b, c, d, e⟩ => nwK_k a b c d e
  obtain ⟨ν, eν⟩ : ∃ z, z = up2 (up2 (up2 μ 0 0 0) 3 nw p0) 2 0 (nI (nw + 1)) := ⟨_, rfl⟩
  rw [← eν] at mk m2 m3 ⊢
  refine Sim.of ?_ (hI.newW he hn) ⟨fun i hi => ?_, fun i i1 i2 => ?_, H3.cg (kk 2 (by decide)) (kk 3 (by decide)) (mk 5 (by decide)) (mk 6 (by decide)), H4.cg (kk 15 (by decide)) (kk 0 (by decide)) (mk 14 (by decide)) (mk 15 (by decide)) (mk 16 (by decide)) (mk 17 (by decide)) (mk 18 (by decide)), H5.cg (kk 1 (by decide)) (kk 16 (by decide)) (mk 19 (by decide)) (mk 20 (by decide)) (mk 22 (by decide)) (mk 23 (by decide)) (mk 24 (by decide))⟩
  · obtain ⟨h1, h2, h3, h4, h5, h6, h7, h8, h9, h10, h11, h12, h13⟩ := hM
    refine ⟨m2, by omega, by rw [mk 1 (by decide)]; exact h3, h4, by rw [mk 13 (by decide)]; exact h5, h6, by rw [mk 21 (by decide)]; exact h7, h8, by rw [mk 4 (by decide)]; exact h9, by rw [mk 4 (by decide)]; exact h10, by rw [mk 5 (by decide)]; exact h11, fun w hw => ?_, by rw [mk 22 (by decide)]; exact h13⟩
    rw [m3]
    by_cases q : w = nw
    · subst q
      exact ⟨ev, he, by rw [va_up_s, hp]⟩
    · rw [va_up_n q]
      exact h12 w (by omega)
  · by_cases q : i = nw
    · subst q
      obtain ⟨n1, n2, n3, n4, n5⟩ := H2 i (Nat.le_refl _) hn
      have a : ∀ t, nwK κ i ev 4 i t = wrow0 ev t := fun t => by rw [nwK_4]
      have hsp : ∀ k p, spC (nwK κ i ev) i k p = 0 := by
        intro k p
        unfold spC
        rw [nwK_10, if_neg (show ¬ ((0 : Int32) = 1) by decide)]
      have hcn : cnM ν i = 0 := by
        unfold cnM
        rw [mk 7 (by decide)]
        exact cntM_none 20 (by omega) (n1 0 (by omega))
      refine ⟨?_, ?_, ?_, ?_, ?_, ?_, ?_, ?_, ?_, ?_, ?_, ?_⟩
      · rw [a, m3, va_up_s, hp]; rfl
      · rw [a, hcn]; rfl
      · rw [a, mk 10 (by decide), n2]; rfl
      · rw [a, mk 11 (by decide), n3]; rfl
      · rw [a]
        show 0 ≤ (0 : Int32).toInt ∧ (0 : Int32).toInt ≤ 40000000
        rw [i_0]; omega
      · rw [a]
        show 0 ≤ (0 : Int32).toInt ∧ (0 : Int32).toInt ≤ 40000000 * ((wk : Nat) : Int)
        rw [i_0]; omega
      · rw [nwK_5, nwK_6, mk 4 (by decide)]
        exact n5
      · intro s hs
        rw [nwK_7, mk 7 (by decide), n1 s hs]
        exact ⟨rfl, fun z => absurd rfl z⟩
      · intro s hs z
        rw [nwK_7] at z
        exact absurd rfl z
      · intro k p hk hp4
        rw [hsp, mk 12 (by decide), n4 k p hk hp4]
      · intro k _ _
        rw [nwK_10]
        exact (by decide : ¬ ((0 : Int32) = 1))
      · rw [a, a, gS_zero 31 (fun k _ => hsp k 0)]
        rfl
    · exact (H1 i (by omega)).cg (Nat.le_refl _) (fun k k1 k2 => nwK_i q) (by rw [m3, va_up_n q]) (by rw [mk 10 (by decide)]) (by rw [mk 11 (by decide)]) (fun j _ _ => by rw [mk 4 (by decide)]) (fun j _ => by rw [mk 7 (by decide)]) (fun j _ => by rw [mk 8 (by decide)]) (fun j _ => by rw [mk 9 (by decide)]) (fun k p _ _ => by rw [mk 12 (by decide)])
  · exact (H2 i (by omega) i2).cg (by rw [mk 10 (by decide)]) (by rw [mk 11 (by decide)]) (fun j _ _ => by rw [mk 4 (by decide)]) (fun j _ => by rw [mk 7 (by decide)]) (fun k p _ _ => by rw [mk 12 (by decide)])
end SIM5
