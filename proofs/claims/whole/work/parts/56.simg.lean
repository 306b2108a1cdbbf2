theorem ring6 (a c t : Int32) : a - c + t = a + (t - c) := by
  rw [Int32.sub_eq_add_neg, Int32.sub_eq_add_neg, Int32.add_assoc, Int32.add_comm (-c)]
theorem ring7 (d r : Int32) : r + (d - r) = d := by
  rw [Int32.sub_eq_add_neg, Int32.add_comm d, ← Int32.add_assoc, Int32.add_right_neg, Int32.zero_add]
theorem ring8 (r c e : Int32) : (r + c) + e = (r + e) + c := by
  rw [Int32.add_assoc, Int32.add_comm c, ← Int32.add_assoc]
theorem gS_up {h h2 : Nat → Int32} {q n : Nat} {c : Int32} (hq : q < n) (h0 : h q = 0) (h1 : h2 q = c) (he : ∀ k, k ≠ q → h2 k = h k) : gS h2 n = gS h n + c := by
  have e : gS h2 n = gS (fun k => h k + (if k = q then c else 0)) n := gS_eq n (fun k _ => by
    by_cases z : k = q
    · subst z
      show h2 k = h k + (if k = k then c else 0)
      rw [if_pos rfl, h0, h1, Int32.zero_add]
    · show h2 k = h k + (if k = q then c else 0)
      rw [if_neg z, he k z, Int32.add_zero])
  rw [e, gS_add, gS_one (h := fun k => if k = q then c else 0) n hq (fun k _ hne => if_neg hne)]
  show gS h n + (if q = q then c else 0) = _
  rw [if_pos rfl]
section STP2
variable {μ : mS} {κ : cS} {nw no nt wk w : Nat} {v : Nat → Nat}
theorem clo_pay (hM : Im μ nw wk no nt) (hI : Ic nw no nt wk κ) (h : sAt μ κ nw no nt v) (hw : w < nw) (hv : v w = wk) (hk : wk < 31) (hc0 : ¬ clM μ w < 0) (hc1 : 0 < clM μ w ∧ clM μ w ≤ μ 19 (μ 3 w).toNatClampNeg) : sAt (stM μ wk no w) (stC κ no wk w) nw no nt (vUp v w) := by
  obtain ⟨H1, H2, H3, H4, H5⟩ := h
  have hcl := (H1 w hw).cl hI hM hw H3
  obtain ⟨ev, hev, hme⟩ := hM.2.2.2.2.2.2.2.2.2.2.2.1 w hw
  have hke : κ 4 w 0 = nI ev := (H1 w hw).1.trans hme
  have hn8 : nw ≤ 8 := hI.1
  have hn20 : no ≤ 20 := hI.2.1
  have heC : evC κ w = ev := by unfold evC; rw [hke, nI_clamp (n := ev) (by omega)]
  have heM : (μ 3 w).toNatClampNeg = ev := by rw [hme, nI_clamp (n := ev) (by omega)]
  obtain ⟨c, ec⟩ : ∃ z, z = clM μ w := ⟨_, rfl⟩
  have eM : stM μ wk no w = pyM μ w wk no ev c := by
    unfold stM
    rw [if_neg hc0, if_pos hc1, heM, ← ec]
  have eC : stC κ no wk w = payK κ no wk w ev c := by
    unfold stC
    rw [hcl, if_neg hc0, if_pos ⟨fun z => absurd hc1.1 (by rw [z]; exact Int32.lt_irrefl), by rw [heC, (H5.1 ev hev).1, ← heM]; exact Int32.not_lt.mpr hc1.2⟩, heC, ← ec]
  rw [eM, eC]
  obtain ⟨h1, h2, h3, h4, h5, h6, h7, h8, h9, h10, h11, h12⟩ := H1 w hw
  have hdu := du_rng (a := 0) (b := nI wk) hI hw h9 H3.2.2
  have ecl : c = duC κ w 0 (nI wk) - κ 4 w 2 := by rw [ec, ← hcl]; rfl
  have tcl : c.toInt = (duC κ w 0 (nI wk)).toInt - (κ 4 w 2).toInt := by rw [ecl]; exact i_sub (by omega) (by omega)
  have hp := hc1.1
  rw [Int32.lt_iff_toInt_lt, i_0, ← ec] at hp
  have hc40 : c.toInt ≤ 40000000 := by omega
  have hd := i_div10 (g := c) (by omega)
  have htk : tkC κ w c = lst (μ 11 w) (c / 10) := tk_eq h4
  have ht : (tkC κ w c).toInt = min (κ 4 w 3).toInt (c.toInt / 10) := by rw [htk, lst_toInt, hd, h4]
  obtain ⟨G1, G2, G3⟩ := gn_eq (w := w) (ev := ev) (wk := wk) hn20 H4 h4 (by rw [← h4]; exact h6.1) (g := c) (by omega) hc40
  rw [hv] at h6 h11
  have mk : ∀ k, (k ≠ 10 ∧ k ≠ 11 ∧ k ≠ 12 ∧ k ≠ 16 ∧ k ≠ 19) → pyM μ w wk no ev c k = μ k := fun k hk => pyM_k hk
  have kk : ∀ k, (k ≠ 1 ∧ k ≠ 4 ∧ k ≠ 10 ∧ k ≠ 11 ∧ k ≠ 12 ∧ k ≠ 13 ∧ k ≠ 14 ∧ k ≠ 15) → payK κ no wk w ev c k = κ k := fun k hk => payK_k hk
  have m12 : ∀ x, (x < 4 * (31 * w + wk) ∨ 4 * (31 * w + wk) + 4 ≤ x) → pyM μ w wk no ev c 12 x = μ 12 x := by
    intro x hx
    rw [pyM_12, va_up_n (by omega), va_up_n (by omega), va_up_n (by omega), va_up_n (by omega)]
  refine ⟨fun i hi => ?_, fun i i1 i2 => ?_, H3.cg (kk 2 (by decide)) (kk 3 (by decide)) (mk 5 (by decide)) (mk 6 (by decide)), ?_, ?_⟩
  · by_cases q : i = w
    · subst q
      have k4 : payK κ no wk i ev c 4 i = va_up (va_up (κ 4 i) 2 (κ 4 i 2 + c)) 3 (κ 4 i 3 - tkC κ i c) := by rw [payK_4, pyK_4]
      have a0 : payK κ no wk i ev c 4 i 0 = κ 4 i 0 := by rw [k4, va_up_n (by decide), va_up_n (by decide)]
      have a1 : payK κ no wk i ev c 4 i 1 = κ 4 i 1 := by rw [k4, va_up_n (by decide), va_up_n (by decide)]
      have a2 : payK κ no wk i ev c 4 i 2 = κ 4 i 2 + c := by rw [k4, va_up_n (by decide), va_up_s]
      have a3 : payK κ no wk i ev c 4 i 3 = κ 4 i 3 - tkC κ i c := by rw [k4, va_up_s]
      have a4 : payK κ no wk i ev c 4 i 4 = κ 4 i 4 := by rw [k4, va_up_n (by decide), va_up_n (by decide)]
      have hcn : cnM (pyM μ i wk no ev c) i = cnM μ i := by unfold cnM; rw [mk 7 (by decide)]
      have b2 : κ 4 i 2 + c = duC κ i 0 (nI wk) := by rw [ecl, ring7]
      have b3 : (κ 4 i 3 - tkC κ i c).toInt = (κ 4 i 3).toInt - (tkC κ i c).toInt := i_sub (by omega) (by omega)
      have p10 : payK κ no wk i ev c 10 i = va_up (κ 10 i) wk 1 := by unfold payK; rw [slK_10, oK_pgC.1 10 (by decide), pyK_k (by decide) (by decide)]
      have p11 : payK κ no wk i ev c 11 i = va_up (κ 11 i) wk c := by unfold payK; rw [slK_11, oK_pgC.1 11 (by decide), pyK_k (by decide) (by decide)]
      have p12 : payK κ no wk i ev c 12 i = va_up (κ 12 i) wk (tkC κ i c) := by unfold payK; rw [slK_12, oK_pgC.1 12 (by decide), pyK_k (by decide) (by decide)]
      have p13 : payK κ no wk i ev c 13 i = va_up (κ 13 i) wk (pgC κ no i ev c).2 := by unfold payK; rw [slK_13, oK_pgC.1 13 (by decide), pyK_k (by decide) (by decide)]
      have p14 : payK κ no wk i ev c 14 i = va_up (κ 14 i) wk (c - tkC κ i c - (pgC κ no i ev c).2) := by unfold payK; rw [slK_14, oK_pgC.1 14 (by decide), pyK_k (by decide) (by decide)]
      have s1 : ∀ k p, p < 4 → k ≠ wk → spC (payK κ no wk i ev c) i k p = spC κ i k p := by
        intro k p hp4 hne
        unfold spC
        rw [p10, va_up_n hne]
        rcases (show p = 0 ∨ p = 1 ∨ p = 2 ∨ p = 3 by omega) with rfl | rfl | rfl | rfl
        · rw [show payK κ no wk i ev c (11 + 0) i = va_up (κ 11 i) wk c from p11, va_up_n hne]
        · rw [show payK κ no wk i ev c (11 + 1) i = va_up (κ 12 i) wk (tkC κ i c) from p12, va_up_n hne]
        · rw [show payK κ no wk i ev c (11 + 2) i = va_up (κ 13 i) wk (pgC κ no i ev c).2 from p13, va_up_n hne]
        · rw [show payK κ no wk i ev c (11 + 3) i = va_up (κ 14 i) wk (c - tkC κ i c - (pgC κ no i ev c).2) from p14, va_up_n hne]
      have s2 : ∀ p, spC (payK κ no wk i ev c) i wk p = payK κ no wk i ev c (11 + p) i wk := by
        intro p
        unfold spC
        rw [p10, va_up_s, if_pos rfl]
      have t0 : spC (payK κ no wk i ev c) i wk 0 = c := by rw [s2, show payK κ no wk i ev c (11 + 0) i = va_up (κ 11 i) wk c from p11, va_up_s]
      have evv : vUp v i i = wk + 1 := by unfold vUp; rw [if_pos rfl, hv]
      rw [evv]
      refine ⟨by rw [a0, mk 3 (by decide)]; exact h1, by rw [a1, hcn]; exact h2, ?_, ?_, ?_, ?_, ?_, ?_, ?_, ?_, ?_, ?_⟩
      · rw [a2, pyM_10, va_up_s, h3]
      · rw [a3, pyM_11, va_up_s, h4, htk]
      · rw [a2, b2]
        exact hdu
      · rw [a3, b3]
        omega
      · rw [kk 5 (by decide), kk 6 (by decide), mk 4 (by decide)]
        exact h7
      · intro s hs
        rw [kk 7 (by decide), kk 8 (by decide), kk 9 (by decide), mk 7 (by decide), mk 8 (by decide), mk 9 (by decide)]
        exact h8 s hs
      · intro s hs
        rw [kk 7 (by decide), kk 8 (by decide), kk 9 (by decide)]
        exact h9 s hs
      · intro k p hk1 hp4
        by_cases q2 : k = wk
        · subst q2
          rw [pyM_12]
          rcases (show p = 0 ∨ p = 1 ∨ p = 2 ∨ p = 3 by omega) with rfl | rfl | rfl | rfl
          · rw [t0, va_up_n (by omega), va_up_n (by omega), va_up_n (by omega), va_up_s]
          · rw [s2, show payK κ no k i ev c (11 + 1) i = va_up (κ 12 i) k (tkC κ i c) from p12, va_up_s, va_up_n (by omega), va_up_n (by omega), va_up_s, htk]
          · rw [s2, show payK κ no k i ev c (11 + 2) i = va_up (κ 13 i) k (pgC κ no i ev c).2 from p13, va_up_s, va_up_n (by omega), va_up_s, G1]
          · rw [s2, show payK κ no k i ev c (11 + 3) i = va_up (κ 14 i) k (c - tkC κ i c - (pgC κ no i ev c).2) from p14, va_up_s, va_up_s, G1, htk]
        · rw [s1 k p hp4 q2, m12 _ (by omega)]
          exact h10 k p hk1 hp4
      · intro k hk1 hk2
        rw [p10, va_up_n (by omega)]
        exact h11 k (by omega) hk2
      · have hz : spC κ i wk 0 = 0 := by
          unfold spC
          rw [if_neg (h11 wk (Nat.le_refl _) hk)]
        rw [a2, a4, gS_up (h := fun k => spC κ i k 0) (h2 := fun k => spC (payK κ no wk i ev c) i k 0) hk hz t0 (fun k hne => s1 k 0 (by omega) hne), ← h12, ring8]
    · have evv : vUp v w i = v i := by unfold vUp; rw [if_neg q]
      rw [evv]
      exact (H1 i hi).cg (Nat.le_refl _) (fun k k1 k2 => payK_i q (by omega) (by omega)) (by rw [mk 3 (by decide)]) (by rw [pyM_10, va_up_n q]) (by rw [pyM_11, va_up_n q]) (fun j _ _ => by rw [mk 4 (by decide)]) (fun j _ => by rw [mk 7 (by decide)]) (fun j _ => by rw [mk 8 (by decide)]) (fun j _ => by rw [mk 9 (by decide)]) (fun k p k1 k2 => m12 _ (by omega))
  · exact (H2 i i1 i2).cg (by rw [pyM_10, va_up_n (by omega)]) (by rw [pyM_11, va_up_n (by omega)]) (fun j _ _ => by rw [mk 4 (by decide)]) (fun j _ => by rw [mk 7 (by decide)]) (fun k p k1 k2 => m12 _ (by omega))
  · obtain ⟨O1, O2, O3, O4⟩ := H4
    refine ⟨fun i hi => ?_, by rw [kk 0 (by decide), mk 18 (by decide)]; exact O2, by rw [mk 18 (by decide)]; exact O3, by rw [mk 18 (by decide)]; exact O4⟩
    obtain ⟨o1, o2, o3, o4, o5, o6⟩ := O1 i hi
    obtain ⟨g1, g2⟩ := G2 i hi
    rw [payK_15, G3 i 0 (by decide), G3 i 1 (by decide), G3 i 3 (by decide), g1, mk 14 (by decide), mk 15 (by decide), mk 17 (by decide), pyM_16]
    exact ⟨o1, o2, rfl, o4, g2, o6⟩
  · obtain ⟨P1, P2, P3⟩ := H5
    refine ⟨fun e he => ?_, fun i hi => ?_, fun i i1 i2 => by rw [mk 24 (by decide)]; exact P3 i i1 i2⟩
    · rw [payK_1, pyM_19, mk 20 (by decide)]
      by_cases q : e = ev
      · subst q
        rw [pyK_1, va_up_n (by decide), va_up_s, va_up_s, va_up_s, ring6, (P1 e he).1, (P1 e he).2, htk]
        exact ⟨rfl, rfl⟩
      · have : pyK κ w ev c 1 e = κ 1 e := by unfold pyK; rw [upF_k (by decide), upF_i q]
        rw [this, va_up_n q]
        exact P1 e he
    · rw [kk 16 (by decide), mk 22 (by decide), mk 23 (by decide), mk 24 (by decide)]
      exact P2 i hi
end STP2
