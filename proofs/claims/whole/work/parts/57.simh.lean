/-! CLOSING A WEEK side by side: all workers -/
section CLA
variable {μ : mS} {κ : cS} {nw no nt wk w : Nat} {v : Nat → Nat}
theorem clo_none (h : sAt μ κ nw no nt v) : sAt μ κ nw no nt (vUp v w) := by
  obtain ⟨H1, H2, H3, H4, H5⟩ := h
  refine ⟨fun i hi => (H1 i hi).cg ?_ (fun _ _ _ => rfl) rfl rfl rfl (fun _ _ _ => rfl) (fun _ _ => rfl) (fun _ _ => rfl) (fun _ _ => rfl) (fun _ _ _ _ => rfl), H2, H3, H4, H5⟩
  unfold vUp
  by_cases q : i = w
  · rw [if_pos q, q]; omega
  · rw [if_neg q]; exact Nat.le_refl _
theorem clo_step (hM : Im μ nw wk no nt) (hI : Ic nw no nt wk κ) (h : sAt μ κ nw no nt v) (hw : w < nw) (hv : v w = wk) (hk : wk < 31) : sAt (stM μ wk no w) (stC κ no wk w) nw no nt (vUp v w) ∧ snC κ wk w = snM μ w := by
  have hcl := (h.1 w hw).cl hI hM hw h.2.2.1
  obtain ⟨ev, hev, hme⟩ := hM.2.2.2.2.2.2.2.2.2.2.2.1 w hw
  have hke : κ 4 w 0 = nI ev := (h.1 w hw).1.trans hme
  have heC : evC κ w = ev := by unfold evC; rw [hke, nI_clamp (n := ev) (by omega)]
  have heM : (μ 3 w).toNatClampNeg = ev := by rw [hme, nI_clamp (n := ev) (by omega)]
  have hpot := (h.2.2.2.2.1 ev hev).1
  by_cases c0 : clM μ w < 0
  · refine ⟨clo_owe hM hI h hw hv hk c0, ?_⟩
    unfold snC snM
    rw [hcl, if_pos c0, if_pos c0]
  · by_cases c1 : 0 < clM μ w ∧ clM μ w ≤ μ 19 (μ 3 w).toNatClampNeg
    · refine ⟨clo_pay hM hI h hw hv hk c0 c1, ?_⟩
      unfold snC snM
      rw [hcl, if_neg c0, if_neg c0, if_pos c1, if_pos ⟨fun z => absurd c1.1 (by rw [z]; exact Int32.lt_irrefl), by rw [heC, hpot, ← heM]; exact Int32.not_lt.mpr c1.2⟩]
    · have c2 : ¬ (¬ clM μ w = 0 ∧ ¬ κ 1 (evC κ w) 0 < clM μ w) := by
        intro z
        refine c1 ⟨?_, ?_⟩
        · have z1 := z.1
          rw [Int32.lt_iff_toInt_lt, i_0] at c0 ⊢
          have : (clM μ w).toInt ≠ 0 := fun e => z1 (i_ext (by rw [e, i_0]))
          omega
        · rw [heM, ← hpot, ← heC]
          exact Int32.not_lt.mp z.2
      have e1 : stM μ wk no w = μ := by unfold stM; rw [if_neg c0, if_neg c1]
      have e2 : stC κ no wk w = κ := by unfold stC; rw [hcl, if_neg c0, if_neg c2]
      rw [e1, e2]
      refine ⟨clo_none h, ?_⟩
      unfold snC snM
      rw [hcl, if_neg c0, if_neg c0, if_neg c1, if_neg c2]
/-- the first i workers are settled -/
def vI (wk i : Nat) : Nat → Nat := fun w => if w < i then wk + 1 else wk
theorem clo_run (hM : Im μ nw wk no nt) (hI : Ic nw no nt wk κ) (h : sAt μ κ nw no nt (fun _ => wk)) (hk : wk < 31) : ∀ i, i ≤ nw → sAt (csA μ wk no i).1 (csC κ nw no wk i).1 nw no nt (vI wk i) ∧ (csC κ nw no wk i).2 = (csA μ wk no i).2
  | 0, _ => by
    refine ⟨?_, rfl⟩
    have : vI wk 0 = fun _ => wk := funext fun w => if_neg (Nat.not_lt_zero w)
    rw [this]
    exact h
  | i + 1, hi => by
    obtain ⟨r1, r2⟩ := clo_run hM hI h hk i (by omega)
    have hI2 := (csC_ok (no := no) hI i).1
    have hM2 : Im (csA μ wk no i).1 nw wk no nt := Im_csA hM i
    have hvi : vI wk i i = wk := if_neg (Nat.lt_irrefl i)
    obtain ⟨s1, s2⟩ := clo_step hM2 hI2 r1 (show i < nw by omega) hvi hk
    have hvu : vUp (vI wk i) i = vI wk (i + 1) := by
      funext w
      unfold vUp vI
      by_cases q : w = i
      · subst q
        rw [if_pos rfl, if_neg (Nat.lt_irrefl w), if_pos (by omega)]
      · by_cases q2 : w < i
        · rw [if_neg q, if_pos q2, if_pos (by omega)]
        · rw [if_neg q, if_neg q2, if_neg (by omega)]
    have eC : csC κ nw no wk (i + 1) = (stC (csC κ nw no wk i).1 no wk i, (csC κ nw no wk i).2 + snC (csC κ nw no wk i).1 wk i) := by
      show (if i < nw then _ else _) = _
      exact if_pos (by omega)
    rw [eC]
    show sAt (stM (csA μ wk no i).1 wk no i) (stC (csC κ nw no wk i).1 no wk i) nw no nt (vI wk (i + 1)) ∧ (csC κ nw no wk i).2 + snC (csC κ nw no wk i).1 wk i = (csA μ wk no i).2 + snM (csA μ wk no i).1 i
    rw [← hvu, r2, s2]
    exact ⟨s1, rfl⟩
theorem csC_end {κ : cS} {nw no wk : Nat} : ∀ d, csC κ nw no wk (nw + d) = csC κ nw no wk nw
  | 0 => rfl
  | d + 1 => by
    have e : csC κ nw no wk (nw + (d + 1)) = csC κ nw no wk (nw + d) := by
      show (if nw + d < nw then _ else _) = _
      exact if_neg (by omega)
    rw [e]
    exact csC_end d
theorem Sim.at {μ : mS} {κ : cS} {nw no nt wk : Nat} (h : Sim μ κ nw no nt wk) : sAt μ κ nw no nt (fun _ => wk) := ⟨h.2.2.1, h.2.2.2.1, h.2.2.2.2.1, h.2.2.2.2.2.1, h.2.2.2.2.2.2⟩
/-- a change of the reference's error or week only -/
theorem sAt.e {μ μ2 : mS} {κ : cS} {nw no nt : Nat} {v v2 : Nat → Nat} (h : sAt μ κ nw no nt v) (hv : ∀ i, i < nw → v i ≤ v2 i) (he : ∀ k, 2 ≤ k → μ2 k = μ k) : sAt μ2 κ nw no nt v2 := by
  obtain ⟨H1, H2, H3, H4, H5⟩ := h
  refine ⟨fun i hi => (H1 i hi).cg (hv i hi) (fun _ _ _ => rfl) ?_ ?_ ?_ ?_ ?_ ?_ ?_ ?_, fun i i1 i2 => (H2 i i1 i2).cg ?_ ?_ ?_ ?_ ?_, H3.cg rfl rfl (he 5 (by decide)) (he 6 (by decide)), H4.cg rfl rfl (he 14 (by decide)) (he 15 (by decide)) (he 16 (by decide)) (he 17 (by decide)) (he 18 (by decide)), H5.cg rfl rfl (he 19 (by decide)) (he 20 (by decide)) (he 22 (by decide)) (he 23 (by decide)) (he 24 (by decide))⟩
  · rw [he 3 (by decide)]
  · rw [he 10 (by decide)]
  · rw [he 11 (by decide)]
  · intro j _ _; rw [he 4 (by decide)]
  · intro j _; rw [he 7 (by decide)]
  · intro j _; rw [he 8 (by decide)]
  · intro j _; rw [he 9 (by decide)]
  · intro k p _ _; rw [he 12 (by decide)]
  · rw [he 10 (by decide)]
  · rw [he 11 (by decide)]
  · intro j _ _; rw [he 4 (by decide)]
  · intro j _; rw [he 7 (by decide)]
  · intro k p _ _; rw [he 12 (by decide)]
end CLA
