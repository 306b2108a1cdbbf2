section SIM9
variable {μ : mS} {κ : cS} {nw no nt wk : Nat}
theorem sim_come (h : Sim μ κ nw no nt wk) {w s kv cn : Nat} {p2 p3 p4 : Int32} (hw : w < nw) (hs : s ≤ 19) (hk : kv ≤ 30) (hp : p2 = nI kv) (h3 : inr p3 0 100) (h4 : inr p4 0 100) (h7 : κ 7 w s = -1) (hc : cn ≤ 20) (hcn : κ 4 w 1 = nI cn) :
    nI (cnM (up2 (up2 (up2 (up2 μ 0 0 0) 7 (20 * w + s) p2) 8 (20 * w + s) p3) 9 (20 * w + s) p4) w) = nI (cnR (va_up (κ 7 w) s (nI kv)) (20 - cn) cn) ∧
    Sim (up2 (up2 (up2 (up2 μ 0 0 0) 7 (20 * w + s) p2) 8 (20 * w + s) p3) 9 (20 * w + s) p4) (shK κ w s kv p3 p4 (nI (cnR (va_up (κ 7 w) s (nI kv)) (20 - cn) cn))) nw no nt wk := by
  obtain ⟨hM, hI, H1, H2, H3, H4, H5⟩ := h
  have mk : ∀ k, (k ≠ 0 ∧ k ≠ 7 ∧ k ≠ 8 ∧ k ≠ 9) → up2 (up2 (up2 (up2 μ 0 0 0) 7 (20 * w + s) p2) 8 (20 * w + s) p3) 9 (20 * w + s) p4 k = μ k := fun k ⟨a, b, c, d⟩ => by rw [up2_n d, up2_n c, up2_n b, up2_n a]
  have m7 : up2 (up2 (up2 (up2 μ 0 0 0) 7 (20 * w + s) p2) 8 (20 * w + s) p3) 9 (20 * w + s) p4 7 = va_up (μ 7) (20 * w + s) p2 := by rw [up2_n (by decide), up2_n (by decide), up2_s, up2_n (by decide)]
  have m8 : up2 (up2 (up2 (up2 μ 0 0 0) 7 (20 * w + s) p2) 8 (20 * w + s) p3) 9 (20 * w + s) p4 8 = va_up (μ 8) (20 * w + s) p3 := by rw [up2_n (by decide), up2_s, up2_n (by decide), up2_n (by decide)]
  have m9 : up2 (up2 (up2 (up2 μ 0 0 0) 7 (20 * w + s) p2) 8 (20 * w + s) p3) 9 (20 * w + s) p4 9 = va_up (μ 9) (20 * w + s) p4 := by rw [up2_s, up2_n (by decide), up2_n (by decide), up2_n (by decide)]
  obtain ⟨g1, g2, g3, g4, g5, g6, g7, g8, g9, g10, g11, g12⟩ := H1 w hw
  have hcM : cn = cnM μ w := nI_inj2 (hcn.symm.trans g2) (by omega) (by have := cnM_le μ w; omega)
  have hg : ∀ t, t < 20 → va_up (κ 7 w) s (nI kv) t = va_up (μ 7) (20 * w + s) p2 (20 * w + t) := by
    intro t ht
    by_cases q : t = s
    · subst q
      rw [va_up_s, va_up_s, hp]
    · rw [va_up_n q, va_up_n (by omega)]
      exact (g8 t ht).1
  have hcnt : cnM (up2 (up2 (up2 (up2 μ 0 0 0) 7 (20 * w + s) p2) 8 (20 * w + s) p3) 9 (20 * w + s) p4) w = cnR (va_up (κ 7 w) s (nI kv)) (20 - cn) cn := by
    rw [cn_eq hg (20 - cn) cn (by omega)]
    unfold cnM
    rw [m7, cntM_go (r := μ 7) (r2 := va_up (μ 7) (20 * w + s) p2) (b := 20 * w) 20 0 (fun j j1 j2 z => ?_) cn hcM, Nat.zero_add]
    by_cases q : 20 * w + j = 20 * w + s
    · rw [q, va_up_s, hp]
      exact nI_nm1 (by omega)
    · rw [va_up_n q]; exact z
  have hcle : cnR (va_up (κ 7 w) s (nI kv)) (20 - cn) cn ≤ 20 := by
    have := cnR_le (g := va_up (κ 7 w) s (nI kv)) (20 - cn) cn
    omega
  refine ⟨by rw [hcnt], ?_⟩
  obtain ⟨c2, ec2⟩ : ∃ z, z = cnR (va_up (κ 7 w) s (nI kv)) (20 - cn) cn := ⟨_, rfl⟩
  rw [← ec2] at hcnt hcle ⊢
  have kk : ∀ k, (k ≠ 4 ∧ k ≠ 7 ∧ k ≠ 8 ∧ k ≠ 9) → shK κ w s kv p3 p4 (nI c2) k = κ k := fun k ⟨a, b, c, d⟩ => funext fun _ => by unfold shK; rw [upF_k a, upF_k d, upF_k c, upF_k b]
  have k7 : shK κ w s kv p3 p4 (nI c2) 7 w = va_up (κ 7 w) s (nI kv) := shK_7
  have k8 : shK κ w s kv p3 p4 (nI c2) 8 w = va_up (κ 8 w) s p3 := shK_8
  have k9 : shK κ w s kv p3 p4 (nI c2) 9 w = va_up (κ 9 w) s p4 := shK_9
  have k4 : shK κ w s kv p3 p4 (nI c2) 4 w = va_up (κ 4 w) 1 (nI c2) := shK_4
  have ki : ∀ k i, i ≠ w → shK κ w s kv p3 p4 (nI c2) k i = κ k i := fun k i hi => shK_i hi
  obtain ⟨ν, eν⟩ : ∃ z, z = up2 (up2 (up2 (up2 μ 0 0 0) 7 (20 * w + s) p2) 8 (20 * w + s) p3) 9 (20 * w + s) p4 := ⟨_, rfl⟩
  obtain ⟨κ9, eκ⟩ : ∃ z, z = shK κ w s kv p3 p4 (nI c2) := ⟨_, rfl⟩
  rw [← eν] at mk m7 m8 m9 hcnt ⊢
  rw [← eκ] at kk k7 k8 k9 k4 ki ⊢
  refine Sim.of ?_ ?_ ⟨fun i hi => ?_, fun i i1 i2 => ?_, H3.cg (kk 2 (by decide)) (kk 3 (by decide)) (mk 5 (by decide)) (mk 6 (by decide)), H4.cg (kk 15 (by decide)) (kk 0 (by decide)) (mk 14 (by decide)) (mk 15 (by decide)) (mk 16 (by decide)) (mk 17 (by decide)) (mk 18 (by decide)), H5.cg (kk 1 (by decide)) (kk 16 (by decide)) (mk 19 (by decide)) (mk 20 (by decide)) (mk 22 (by decide)) (mk 23 (by decide)) (mk 24 (by decide))⟩
  · exact hM.cg (mk 1 (by decide)) (mk 2 (by decide)) (mk 3 (by decide)) (mk 4 (by decide)) (mk 5 (by decide)) (by rw [mk 13 (by decide)]; exact hM.2.2.2.2.1) hM.2.2.2.2.2.1 (by rw [mk 21 (by decide)]; exact hM.2.2.2.2.2.2.1) hM.2.2.2.2.2.2.2.1 (by rw [mk 22 (by decide)]; exact hM.2.2.2.2.2.2.2.2.2.2.2.2)
  · obtain ⟨a1, a2, a3, a4, a5, a6, a7, a8, a9, a10⟩ := hI
    refine ⟨a1, a2, a3, a4, fun i hi => ?_, fun i hi => ?_, fun i hi t ht => ?_, by rw [kk 5 (by decide)]; exact a8, by rw [kk 15 (by decide)]; exact a9, by rw [kk 16 (by decide)]; exact a10⟩
    · by_cases q : i = w
      · subst q
        rw [k4, va_up_n (by decide)]
        exact a5 i hi
      · rw [ki 4 i q]; exact a5 i hi
    · by_cases q : i = w
      · subst q
        rw [k4, va_up_s]
        exact ⟨c2, hcle, rfl⟩
      · rw [ki 4 i q]; exact a6 i hi
    · by_cases q : i = w
      · subst q
        rw [k7]
        by_cases q2 : t = s
        · subst q2
          rw [va_up_s]
          exact Or.inr ⟨kv, by omega, rfl⟩
        · rw [va_up_n q2]
          exact a7 i hi t ht
      · rw [ki 7 i q]; exact a7 i hi t ht
  · by_cases q : i = w
    · subst q
      have hsp : spC κ9 i = spC κ i := by
        funext k p
        unfold spC
        rw [kk 10 (by decide), kk (11 + p) (by omega)]
      have e4 : ∀ j, j ≠ 1 → κ9 4 i j = κ 4 i j := fun j hj => by rw [k4, va_up_n hj]
      refine ⟨by rw [e4 0 (by decide), mk 3 (by decide)]; exact g1, by rw [k4, va_up_s, hcnt], by rw [e4 2 (by decide), mk 10 (by decide)]; exact g3, by rw [e4 3 (by decide), mk 11 (by decide)]; exact g4, by rw [e4 2 (by decide)]; exact g5, by rw [e4 3 (by decide)]; exact g6, by rw [kk 5 (by decide), kk 6 (by decide), mk 4 (by decide)]; exact g7, ?_, ?_, by rw [hsp, mk 12 (by decide)]; exact g10, by rw [kk 10 (by decide)]; exact g11, by rw [e4 2 (by decide), e4 4 (by decide), hsp]; exact g12⟩
      · intro t ht
        obtain ⟨u1, u2⟩ := g8 t ht
        rw [k7, k8, k9, m7, m8, m9]
        refine ⟨hg t ht, fun z => ?_⟩
        by_cases q : t = s
        · subst q
          rw [va_up_s, va_up_s, va_up_s, va_up_s]
          exact ⟨rfl, rfl⟩
        · rw [va_up_n q] at z
          rw [va_up_n q, va_up_n q, va_up_n (by omega), va_up_n (by omega)]
          exact u2 z
      · intro t ht z
        rw [k7] at z
        rw [k8, k9]
        by_cases q : t = s
        · subst q
          rw [va_up_s, va_up_s]
          exact ⟨(inr_100 h3).1, (inr_100 h3).2, inr_100 h4⟩
        · rw [va_up_n q] at z
          rw [va_up_n q, va_up_n q]
          exact g9 t ht z
    · exact (H1 i hi).cg (Nat.le_refl _) (fun k k1 k2 => ki k i q) (by rw [mk 3 (by decide)]) (by rw [mk 10 (by decide)]) (by rw [mk 11 (by decide)]) (fun j _ _ => by rw [mk 4 (by decide)]) (fun j hj => by rw [m7, va_up_n (by omega)]) (fun j hj => by rw [m8, va_up_n (by omega)]) (fun j hj => by rw [m9, va_up_n (by omega)]) (fun k p _ _ => by rw [mk 12 (by decide)])
  · exact (H2 i i1 i2).cg (by rw [mk 10 (by decide)]) (by rw [mk 11 (by decide)]) (fun j _ _ => by rw [mk 4 (by decide)]) (fun j hj => by rw [m7, va_up_n (by omega)]) (fun k p _ _ => by rw [mk 12 (by decide)])
end SIM9
