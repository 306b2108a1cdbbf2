/-! CLOSING A WEEK side by side: the step -/
theorem sW.cg {μ μ2 : mS} {κ κ2 : cS} {i v v2 : Nat} (h : sW μ κ i v) (hv : v ≤ v2) (ek : ∀ k, 4 ≤ k → k ≤ 14 → κ2 k i = κ k i) (m3 : μ2 3 i = μ 3 i) (m10 : μ2 10 i = μ 10 i) (m11 : μ2 11 i = μ 11 i) (m4 : ∀ j, 31 * i ≤ j → j < 31 * i + 31 → μ2 4 j = μ 4 j) (m7 : ∀ s, s < 20 → μ2 7 (20 * i + s) = μ 7 (20 * i + s)) (m8 : ∀ s, s < 20 → μ2 8 (20 * i + s) = μ 8 (20 * i + s)) (m9 : ∀ s, s < 20 → μ2 9 (20 * i + s) = μ 9 (20 * i + s)) (m12 : ∀ k p, k < 31 → p < 4 → μ2 12 (4 * (31 * i + k) + p) = μ 12 (4 * (31 * i + k) + p)) : sW μ2 κ2 i v2 := by
  obtain ⟨h1, h2, h3, h4, h5, h6, h7, h8, h9, h10, h11, h12⟩ := h
  have e4 := ek 4 (by omega) (by omega)
  have e7 := ek 7 (by omega) (by omega)
  have e8 := ek 8 (by omega) (by omega)
  have e9 := ek 9 (by omega) (by omega)
  have e10 := ek 10 (by omega) (by omega)
  have hc : cnM μ2 i = cnM μ i := by
    unfold cnM
    rw [← cn_eq (g := fun s => μ2 7 (20 * i + s)) (r := μ2 7) (b := 20 * i) (fun _ _ => rfl) 20 0 (by omega)]
    exact cn_eq (fun s hs => m7 s hs) 20 0 (by omega)
  have hsp : ∀ k p, p < 4 → spC κ2 i k p = spC κ i k p := by
    intro k p hp
    unfold spC
    rw [e10, ek (11 + p) (by omega) (by omega)]
  refine ⟨by rw [e4, m3]; exact h1, by rw [e4, hc]; exact h2, by rw [e4, m10]; exact h3, by rw [e4, m11]; exact h4, by rw [e4]; exact h5, ⟨by rw [e4]; exact h6.1, by rw [e4]; have := h6.2; omega⟩, ?_, ?_, ?_, ?_, ?_, ?_⟩
  · rw [ek 5 (by omega) (by omega), ek 6 (by omega) (by omega)]
    exact h7.other m4
  · intro s hs
    rw [e7, e8, e9, m7 s hs, m8 s hs, m9 s hs]
    exact h8 s hs
  · intro s hs
    rw [e7, e8, e9]
    exact h9 s hs
  · intro k p hk hp
    rw [hsp k p hp, m12 k p hk hp]
    exact h10 k p hk hp
  · intro k hk hk2
    rw [e10]
    exact h11 k (by omega) hk2
  · rw [e4, h12]
    exact gS_eq 31 (fun k _ => (hsp k 0 (by omega)).symm)
theorem sN.cg {μ μ2 : mS} {i : Nat} (h : sN μ i) (m10 : μ2 10 i = μ 10 i) (m11 : μ2 11 i = μ 11 i) (m4 : ∀ j, 31 * i ≤ j → j < 31 * i + 31 → μ2 4 j = μ 4 j) (m7 : ∀ s, s < 20 → μ2 7 (20 * i + s) = μ 7 (20 * i + s)) (m12 : ∀ k p, k < 31 → p < 4 → μ2 12 (4 * (31 * i + k) + p) = μ 12 (4 * (31 * i + k) + p)) : sN μ2 i := by
  obtain ⟨h1, h2, h3, h4, h5⟩ := h
  exact ⟨fun s hs => (m7 s hs).trans (h1 s hs), m10.trans h2, m11.trans h3, fun k p hk hp => (m12 k p hk hp).trans (h4 k p hk hp), h5.other m4⟩
theorem sRates.cg {μ μ2 : mS} {κ κ2 : cS} (h : sRates μ κ) (e2 : κ2 2 = κ 2) (e3 : κ2 3 = κ 3) (m5 : μ2 5 = μ 5) (m6 : μ2 6 = μ 6) : sRates μ2 κ2 := by
  obtain ⟨h1, h2, h3⟩ := h
  refine ⟨fun r hr => ?_, ?_, ?_⟩
  · rw [e2, e3, m5, m6]
    exact h1 r hr
  · rw [m5, m6]
    exact h2
  · intro r k hr hk
    rw [e2]
    exact h3 r k hr hk
theorem sOrd.cg {μ μ2 : mS} {κ κ2 : cS} {no : Nat} (h : sOrd μ κ no) (e15 : κ2 15 = κ 15) (e0 : κ2 0 = κ 0) (m14 : μ2 14 = μ 14) (m15 : μ2 15 = μ 15) (m16 : μ2 16 = μ 16) (m17 : μ2 17 = μ 17) (m18 : μ2 18 = μ 18) : sOrd μ2 κ2 no := by
  obtain ⟨h1, h2, h3, h4⟩ := h
  exact ⟨fun i hi => by rw [e15, m14, m15, m16, m17]; exact h1 i hi, by rw [e0, m18]; exact h2, by rw [m18]; exact h3, by rw [m18]; exact h4⟩
theorem sPot.cg {μ μ2 : mS} {κ κ2 : cS} {nt : Nat} (h : sPot μ κ nt) (e1 : κ2 1 = κ 1) (e16 : κ2 16 = κ 16) (m19 : μ2 19 = μ 19) (m20 : μ2 20 = μ 20) (m22 : μ2 22 = μ 22) (m23 : μ2 23 = μ 23) (m24 : μ2 24 = μ 24) : sPot μ2 κ2 nt := by
  obtain ⟨h1, h2, h3⟩ := h
  exact ⟨fun e he => by rw [e1, m19, m20]; exact h1 e he, fun i hi => by rw [e16, m22, m23, m24]; exact h2 i hi, fun i i1 i2 => by rw [m24]; exact h3 i i1 i2⟩
theorem i_neg {a : Int32} (h : -2147483648 < a.toInt) : (-a).toInt = -a.toInt := by
  have := a.toInt_lt
  rw [Int32.toInt_neg]
  exact Int.bmod_eq_of_le (by omega) (by omega)
theorem ring3 (d r : Int32) : r - -(d - r) = d := by
  rw [Int32.sub_eq_add_neg r, Int32.neg_neg, Int32.sub_eq_add_neg, Int32.add_comm d, ← Int32.add_assoc, Int32.add_right_neg, Int32.zero_add]
theorem ring4 (r c : Int32) : r - -c = r + c := by rw [Int32.sub_eq_add_neg, Int32.neg_neg]
theorem ring5 (r e c : Int32) : (r - -c) + (e + -c) = r + e := by
  rw [ring4, Int32.add_assoc, Int32.add_comm e, ← Int32.add_assoc c, Int32.add_right_neg, Int32.zero_add]
/-- where both stand in the midst of closing: v, the first week without a slip, by workers -/
def sAt (μ : mS) (κ : cS) (nw no nt : Nat) (v : Nat → Nat) : Prop := (∀ i, i < nw → sW μ κ i (v i)) ∧ (∀ i, nw ≤ i → i < 8 → sN μ i) ∧ sRates μ κ ∧ sOrd μ κ no ∧ sPot μ κ nt
def vUp (v : Nat → Nat) (w : Nat) : Nat → Nat := fun i => if i = w then v w + 1 else v i
section STP
variable {μ : mS} {κ : cS} {nw no nt wk w : Nat} {v : Nat → Nat}
theorem clo_owe (hM : Im μ nw wk no nt) (hI : Ic nw no nt wk κ) (h : sAt μ κ nw no nt v) (hw : w < nw) (hv : v w = wk) (hk : wk < 31) (hc : clM μ w < 0) : sAt (stM μ wk no w) (stC κ no wk w) nw no nt (vUp v w) := by
  obtain ⟨H1, H2, H3, H4, H5⟩ := h
  have hcl := (H1 w hw).cl hI hM hw H3
  have eC : stC κ no wk w = upF κ 4 w (va_up (va_up (va_up (κ 4 w) 2 (κ 4 w 2 - -clM μ w)) 3 (κ 4 w 3 + -clM μ w)) 4 (κ 4 w 4 + -clM μ w)) := by
    unfold stC
    rw [hcl, if_pos hc]
  have eM : stM μ wk no w = up2 (up2 μ 11 w (μ 11 w - clM μ w)) 10 w (μ 10 w + clM μ w) := by
    unfold stM
    rw [if_pos hc]
  have mk : ∀ k, k ≠ 10 → k ≠ 11 → stM μ wk no w k = μ k := fun k h1 h2 => by rw [eM, up2_n h1, up2_n h2]
  have kk : ∀ k, k ≠ 4 → stC κ no wk w k = κ k := fun k h1 => by rw [eC]; exact funext fun _ => upF_k h1
  have m10 : stM μ wk no w 10 = va_up (μ 10) w (μ 10 w + clM μ w) := by rw [eM, up2_s, up2_n (by decide)]
  have m11 : stM μ wk no w 11 = va_up (μ 11) w (μ 11 w - clM μ w) := by rw [eM, up2_n (by decide), up2_s]
  refine ⟨fun i hi => ?_, fun i h1 h2 => ?_, H3.cg (kk 2 (by decide)) (kk 3 (by decide)) (mk 5 (by decide) (by decide)) (mk 6 (by decide) (by decide)), H4.cg (kk 15 (by decide)) (kk 0 (by decide)) (mk 14 (by decide) (by decide)) (mk 15 (by decide) (by decide)) (mk 16 (by decide) (by decide)) (mk 17 (by decide) (by decide)) (mk 18 (by decide) (by decide)), H5.cg (kk 1 (by decide)) (kk 16 (by decide)) (mk 19 (by decide) (by decide)) (mk 20 (by decide) (by decide)) (mk 22 (by decide) (by decide)) (mk 23 (by decide) (by decide)) (mk 24 (by decide) (by decide))⟩
  · by_cases q : i = w
    · subst q
      have k4 : stC κ no wk i 4 i = va_up (va_up (va_up (κ 4 i) 2 (κ 4 i 2 - -clM μ i)) 3 (κ 4 i 3 + -clM μ i)) 4 (κ 4 i 4 + -clM μ i) := by rw [eC, upF_s]
      have a0 : stC κ no wk i 4 i 0 = κ 4 i 0 := by rw [k4, va_up_n (by decide), va_up_n (by decide), va_up_n (by decide)]
      have a1 : stC κ no wk i 4 i 1 = κ 4 i 1 := by rw [k4, ow_1]
      have a2 : stC κ no wk i 4 i 2 = κ 4 i 2 - -clM μ i := by rw [k4, ow_2]
      have a3 : stC κ no wk i 4 i 3 = κ 4 i 3 + -clM μ i := by rw [k4, ow_3]
      have a4 : stC κ no wk i 4 i 4 = κ 4 i 4 + -clM μ i := by rw [k4, ow_4]
      have hcn : cnM (stM μ wk no i) i = cnM μ i := by unfold cnM; rw [mk 7 (by decide) (by decide)]
      have hsp : spC (stC κ no wk i) i = spC κ i := by
        funext k p
        unfold spC
        rw [kk 10 (by decide), kk (11 + p) (by omega)]
      obtain ⟨h1, h2, h3, h4, h5, h6, h7, h8, h9, h10, h11, h12⟩ := H1 i hi
      have hdu := du_rng (a := 0) (b := nI wk) hI hi h9 H3.2.2
      have ecl : clM μ i = duC κ i 0 (nI wk) - κ 4 i 2 := by rw [← hcl]; rfl
      have tcl : (clM μ i).toInt = (duC κ i 0 (nI wk)).toInt - (κ 4 i 2).toInt := by rw [ecl]; exact i_sub (by omega) (by omega)
      have tneg : (-clM μ i).toInt = (κ 4 i 2).toInt - (duC κ i 0 (nI wk)).toInt := by rw [i_neg (by omega), tcl]; omega
      have hc2 := hc
      rw [Int32.lt_iff_toInt_lt, i_0, tcl] at hc2
      rw [hv] at h6 h11
      have b2 : (κ 4 i 2 - -clM μ i) = duC κ i 0 (nI wk) := by rw [ecl, ring3]
      have b3 : (κ 4 i 3 + -clM μ i).toInt = (κ 4 i 3).toInt + ((κ 4 i 2).toInt - (duC κ i 0 (nI wk)).toInt) := by rw [i_add (by omega) (by omega), tneg]
      have evv : vUp v i i = wk + 1 := by unfold vUp; rw [if_pos rfl, hv]
      rw [evv]
      refine ⟨by rw [a0, mk 3 (by decide) (by decide)]; exact h1, by rw [a1, hcn]; exact h2, ?_, ?_, ?_, ?_, ?_, ?_, ?_, ?_, ?_, ?_⟩
      · rw [a2, m10, va_up_s, ring4, h3]
      · rw [a3, m11, va_up_s, h4, Int32.sub_eq_add_neg]
      · rw [a2, b2]
        exact hdu
      · rw [a3, b3]
        omega
      · rw [kk 5 (by decide), kk 6 (by decide), mk 4 (by decide) (by decide)]
        exact h7
      · intro s hs
        rw [kk 7 (by decide), kk 8 (by decide), kk 9 (by decide), mk 7 (by decide) (by decide), mk 8 (by decide) (by decide), mk 9 (by decide) (by decide)]
        exact h8 s hs
      · intro s hs
        rw [kk 7 (by decide), kk 8 (by decide), kk 9 (by decide)]
        exact h9 s hs
      · intro k p hk1 hp
        rw [hsp, mk 12 (by decide) (by decide)]
        exact h10 k p hk1 hp
      · intro k hk1 hk2
        rw [kk 10 (by decide)]
        exact h11 k (by omega) hk2
      · rw [a2, a4, ring5, hsp]
        exact h12
    · have evv : vUp v w i = v i := by unfold vUp; rw [if_neg q]
      rw [evv]
      refine (H1 i hi).cg (Nat.le_refl _) (fun k k1 k2 => ?_) (by rw [mk 3 (by decide) (by decide)]) (by rw [m10, va_up_n q]) (by rw [m11, va_up_n q]) (fun j _ _ => by rw [mk 4 (by decide) (by decide)]) (fun j _ => by rw [mk 7 (by decide) (by decide)]) (fun j _ => by rw [mk 8 (by decide) (by decide)]) (fun j _ => by rw [mk 9 (by decide) (by decide)]) (fun k p _ _ => by rw [mk 12 (by decide) (by decide)])
      rw [eC, upF_i q]
  · refine (H2 i h1 h2).cg (by rw [m10, va_up_n (by omega)]) (by rw [m11, va_up_n (by omega)]) (fun j _ _ => by rw [mk 4 (by decide) (by decide)]) (fun j _ => by rw [mk 7 (by decide) (by decide)]) (fun k p _ _ => by rw [mk 12 (by decide) (by decide)])
end STP
