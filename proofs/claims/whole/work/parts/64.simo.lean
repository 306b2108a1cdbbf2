section SIM7
variable {μ : mS} {κ : cS} {nw no nt wk : Nat}
theorem sim_setRank (h : Sim μ κ nw no nt wk) {w kv rv : Nat} {p2 : Int32} (hw : w < nw) (hk : kv ≤ 30) (hr : rv < 3) (hp : p2 = nI rv) :
    Sim (up2 (up2 μ 0 0 0) 4 (31 * w + kv) p2) (tellK κ 5 6 w kv p2) nw no nt wk := by
  obtain ⟨hM, hI, H1, H2, H3, H4, H5⟩ := h
  have hv : ¬ p2 = -1 := by rw [hp]; exact nI_nm1 (by omega)
  have hn8 : nw ≤ 8 := hI.1
  have mk : ∀ k, (k ≠ 0 ∧ k ≠ 4) → up2 (up2 μ 0 0 0) 4 (31 * w + kv) p2 k = μ k := fun k ⟨a, b⟩ => by rw [up2_n b, up2_n a]
  have m4 : up2 (up2 μ 0 0 0) 4 (31 * w + kv) p2 4 = va_up (μ 4) (31 * w + kv) p2 := by rw [up2_s, up2_n (by decide)]
  have kk : ∀ k, k ≠ 5 → k ≠ 6 → tellK κ 5 6 w kv p2 k = κ k := fun k a b => funext fun _ => by unfold tellK; rw [upF_k a, upF_k b]
  have k6 : tellK κ 5 6 w kv p2 6 w = va_up (κ 6 w) kv 1 := by unfold tellK; rw [upF_k (by decide), upF_s]
  have k5 : tellK κ 5 6 w kv p2 5 w = tlV (va_up (κ 6 w) kv 1) p2 (30 - kv) (kv + 1) (va_up (κ 5 w) kv p2) := by unfold tellK; rw [upF_s]
  have ki : ∀ k i, i ≠ w → tellK κ 5 6 w kv p2 k i = κ k i := fun k i hi => by unfold tellK; rw [upF_i hi, upF_i hi]
  have hrl := (H1 w hw).2.2.2.2.2.2.1.tell (kv := kv) (v := p2) (by omega) hv
  have hM10 : ∀ i, i < 248 → va_up (μ 4) (31 * w + kv) p2 i = -1 ∨ ∃ r, r < 3 ∧ va_up (μ 4) (31 * w + kv) p2 i = nI r := by
    intro i hi
    by_cases q : i = 31 * w + kv
    · rw [q, va_up_s]; exact Or.inr ⟨rv, hr, hp⟩
    · rw [va_up_n q]; exact hM.2.2.2.2.2.2.2.2.2.1 i hi
  obtain ⟨ν, eν⟩ : ∃ z, z = up2 (up2 μ 0 0 0) 4 (31 * w + kv) p2 := ⟨_, rfl⟩
  obtain ⟨κ9, eκ⟩ : ∃ z, z = tellK κ 5 6 w kv p2 := ⟨_, rfl⟩
  rw [← eν] at mk m4 ⊢
  rw [← eκ] at kk k5 k6 ki ⊢
  rw [← k5, ← k6, ← m4] at hrl
  rw [← m4] at hM10
  refine Sim.of ?_ ?_ ⟨fun i hi => ?_, fun i i1 i2 => ?_, H3.cg (kk 2 (by decide) (by decide)) (kk 3 (by decide) (by decide)) (mk 5 (by decide)) (mk 6 (by decide)), H4.cg (kk 15 (by decide) (by decide)) (kk 0 (by decide) (by decide)) (mk 14 (by decide)) (mk 15 (by decide)) (mk 16 (by decide)) (mk 17 (by decide)) (mk 18 (by decide)), H5.cg (kk 1 (by decide) (by decide)) (kk 16 (by decide) (by decide)) (mk 19 (by decide)) (mk 20 (by decide)) (mk 22 (by decide)) (mk 23 (by decide)) (mk 24 (by decide))⟩
  · obtain ⟨h1, h2, h3, h4, h5, h6, h7, h8, h9, h10, h11, h12, h13⟩ := hM
    refine ⟨by rw [mk 2 (by decide)]; exact h1, h2, by rw [mk 1 (by decide)]; exact h3, h4, by rw [mk 13 (by decide)]; exact h5, h6, by rw [mk 21 (by decide)]; exact h7, h8, fun i hi => ?_, hM10, by rw [mk 5 (by decide)]; exact h11, by rw [mk 3 (by decide)]; exact h12, by rw [mk 22 (by decide)]; exact h13⟩
    rw [m4]
    by_cases q : 31 * i = 31 * w + kv
    · rw [q, va_up_s]; exact hv
    · rw [va_up_n q]; exact h9 i hi
  · obtain ⟨a1, a2, a3, a4, a5, a6, a7, a8, a9, a10⟩ := hI
    refine ⟨a1, a2, a3, a4, by rw [kk 4 (by decide) (by decide)]; exact a5, by rw [kk 4 (by decide) (by decide)]; exact a6, by rw [kk 7 (by decide) (by decide)]; exact a7, fun i hi k hk2 => ?_, by rw [kk 15 (by decide) (by decide)]; exact a9, by rw [kk 16 (by decide) (by decide)]; exact a10⟩
    by_cases q : i = w
    · subst q
      rw [hrl.1 k hk2]
      have hle := tld_le (ν 4) (31 * i + k)
      rcases hM10 (tld (ν 4) (31 * i + k)) (by omega) with z | z
      · exact absurd z (tld_ne hrl.2.2 (31 * i + k) (by omega))
      · exact z
    · rw [ki 5 i q]
      exact a8 i hi k hk2
  · by_cases q : i = w
    · subst q
      obtain ⟨g1, g2, g3, g4, g5, g6, g7, g8, g9, g10, g11, g12⟩ := H1 i hi
      have hcn : cnM ν i = cnM μ i := by unfold cnM; rw [mk 7 (by decide)]
      have hsp : spC κ9 i = spC κ i := by
        funext k p
        unfold spC
        rw [kk 10 (by decide) (by decide), kk (11 + p) (by omega) (by omega)]
      refine ⟨by rw [kk 4 (by decide) (by decide), mk 3 (by decide)]; exact g1, by rw [kk 4 (by decide) (by decide), hcn]; exact g2, by rw [kk 4 (by decide) (by decide), mk 10 (by decide)]; exact g3, by rw [kk 4 (by decide) (by decide), mk 11 (by decide)]; exact g4, by rw [kk 4 (by decide) (by decide)]; exact g5, by rw [kk 4 (by decide) (by decide)]; exact g6, hrl, ?_, ?_, by rw [hsp, mk 12 (by decide)]; exact g10, by rw [kk 10 (by decide) (by decide)]; exact g11, by rw [kk 4 (by decide) (by decide), hsp]; exact g12⟩
      · intro t ht
        rw [kk 7 (by decide) (by decide), kk 8 (by decide) (by decide), kk 9 (by decide) (by decide), mk 7 (by decide), mk 8 (by decide), mk 9 (by decide)]
        exact g8 t ht
      · intro t ht
        rw [kk 7 (by decide) (by decide), kk 8 (by decide) (by decide), kk 9 (by decide) (by decide)]
        exact g9 t ht
    · exact (H1 i hi).cg (Nat.le_refl _) (fun k k1 k2 => ki k i q) (by rw [mk 3 (by decide)]) (by rw [mk 10 (by decide)]) (by rw [mk 11 (by decide)]) (fun j j1 j2 => by rw [m4, va_up_n (by omega)]) (fun j _ => by rw [mk 7 (by decide)]) (fun j _ => by rw [mk 8 (by decide)]) (fun j _ => by rw [mk 9 (by decide)]) (fun k p _ _ => by rw [mk 12 (by decide)])
  · exact (H2 i i1 i2).cg (by rw [mk 10 (by decide)]) (by rw [mk 11 (by decide)]) (fun j j1 j2 => by rw [m4, va_up_n (by omega)]) (fun j _ => by rw [mk 7 (by decide)]) (fun k p _ _ => by rw [mk 12 (by decide)])
end SIM7
