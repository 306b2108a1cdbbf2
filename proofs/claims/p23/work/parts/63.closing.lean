/-! A CLOSING, WHOLE; A WORKER, WHOLE -/
theorem sp_k {κ : cS} {w k : Nat} (h : ¬ κ 10 w k = 1) : spC κ w k 0 = 0 := if_neg h
def jC (κ0 κ : cS) (nw no nt wk i : Nat) (n : Int32) : Prop := (∀ w, w < nw → jW κ w (if w < i then wk + 1 else wk)) ∧ sRr κ ∧ jO κ no ∧ jP κ nt ∧ Ic nw no nt wk κ ∧
  gS (fun k => κ 15 k 2) no + gS (fun w => spC κ w wk 2) i = gS (fun k => κ0 15 k 2) no ∧
  P3 κ + gS (fun w => spC κ w wk 0 - spC κ w wk 1) i = P3 κ0 ∧
  n = gS (fun w => if (0 : Int32) < spC κ w wk 0 then 1 else 0) i ∧ ∃ c, c ≤ i ∧ n = nI c
section CLS
variable {κ0 κ : cS} {nw no nt wk i : Nat} {n : Int32}
theorem jC_step (h : jC κ0 κ nw no nt wk i n) (hi : i < nw) (hk : wk < 31) : jC κ0 (stC κ no wk i) nw no nt wk (i + 1) (n + snC κ wk i) := by
  obtain ⟨a1, a2, a3, a4, a5, a6, a7, a8, c, a9, a10⟩ := h
  have hw := a1 i hi
  rw [if_neg (Nat.lt_irrefl i)] at hw
  obtain ⟨t1, t2, t3, t4, t5, t6, t7, t8⟩ := set_one a5 hi hw a2 hk a3 a4
  have hIc : Ic nw no nt wk (stC κ no wk i) := Ic_stC2 a5
  obtain ⟨r, er⟩ : ∃ z, z = snC κ wk i := ⟨_, rfl⟩
  have hr01 : r = 0 ∨ r = 1 := by rw [er]; exact snC_01
  rw [← er] at t8 ⊢
  obtain ⟨κ2, eK⟩ : ∃ z, z = stC κ no wk i := ⟨_, rfl⟩
  rw [← eK] at t1 t2 t3 t4 t5 t6 t7 t8 hIc ⊢
  have hs : ∀ w, w < i → ∀ p, p ≤ 3 → spC κ2 w wk p = spC κ w wk p := fun w hw p hp => by
    unfold spC
    rw [t2 w (by omega) 10 (by omega), t2 w (by omega) (11 + p) (by omega)]
  refine ⟨fun w hw => ?_, a2.cg t3, t4, t5, hIc, ?_, ?_, ?_, ?_⟩
  · by_cases q : w = i
    · subst q
      rw [if_pos (Nat.lt_succ_self _)]
      exact t1
    · refine (a1 w hw).cg ?_ (t2 w q)
      by_cases z : w < i
      · rw [if_pos z, if_pos (by omega)]
        exact Nat.le_refl _
      · rw [if_neg z, if_neg (by omega)]
        exact Nat.le_refl _
  · show gS (fun k => κ2 15 k 2) no + (gS (fun w => spC κ2 w wk 2) i + spC κ2 i wk 2) = _
    rw [gS_eq (a := fun w => spC κ2 w wk 2) (b := fun w => spC κ w wk 2) i (fun w hw => hs w hw 2 (by omega)), ← a6, ← t6]
    grind
  · show P3 κ2 + (gS (fun w => spC κ2 w wk 0 - spC κ2 w wk 1) i + (spC κ2 i wk 0 - spC κ2 i wk 1)) = _
    rw [gS_eq (a := fun w => spC κ2 w wk 0 - spC κ2 w wk 1) (b := fun w => spC κ w wk 0 - spC κ w wk 1) i (fun w hw => by rw [hs w hw 0 (by omega), hs w hw 1 (by omega)]), ← a7, ← t7]
    grind
  · show n + r = gS (fun w => if (0 : Int32) < spC κ2 w wk 0 then 1 else 0) i + (if (0 : Int32) < spC κ2 i wk 0 then 1 else 0)
    rw [gS_eq (a := fun w => if (0 : Int32) < spC κ2 w wk 0 then 1 else 0) (b := fun w => if (0 : Int32) < spC κ w wk 0 then 1 else 0) i (fun w hw => by rw [hs w hw 0 (by omega)]), ← a8, ← t8]
  · rcases hr01 with rfl | rfl
    · exact ⟨c, by omega, by rw [a10, Int32.add_zero]⟩
    · exact ⟨c + 1, by omega, by rw [a10]; exact nI_1 c⟩
theorem jC_run (h : JK nw no nt wk κ) (hk : wk < 31) : ∀ i, i ≤ nw → jC κ (csC κ nw no wk i).1 nw no nt wk i (csC κ nw no wk i).2
  | 0, _ => ⟨fun w hw => by rw [if_neg (Nat.not_lt_zero w)]; exact h.2.1 w hw, h.2.2.1, h.2.2.2.1, h.2.2.2.2, h.1, Int32.add_zero _, Int32.add_zero _, rfl, 0, Nat.le_refl _, rfl⟩
  | i + 1, hi => by
    have ih := jC_run h hk i (by omega)
    have e : csC κ nw no wk (i + 1) = (stC (csC κ nw no wk i).1 no wk i, (csC κ nw no wk i).2 + snC (csC κ nw no wk i).1 wk i) := by
      conv => lhs; unfold csC
      rw [if_pos (show i < nw by omega)]
    rw [e]
    exact jC_step ih (by omega) hk
theorem jC_all (h : JK nw no nt wk κ) (hk : wk < 31) : jC κ (csC κ nw no wk 8).1 nw no nt wk nw (csC κ nw no wk 8).2 := by
  have hn8 : nw ≤ 8 := h.1.1
  have e8 : csC κ nw no wk 8 = csC κ nw no wk nw := by
    have := csC_end (κ := κ) (nw := nw) (no := no) (wk := wk) (8 - nw)
    rw [show nw + (8 - nw) = 8 by omega] at this
    exact this
  rw [e8]
  exact jC_run h hk nw (Nat.le_refl _)
theorem J_close (h : JK nw no nt wk κ) (hk : wk < 31) : JK nw no nt (wk + 1) (csC κ nw no wk 8).1 := by
  obtain ⟨a1, a2, a3, a4, a5, -⟩ := jC_all h hk
  refine ⟨?_, fun w hw => ?_, a2, a3, a4⟩
  · obtain ⟨h1, h2, h3, h4, b5, b6, b7, b8, b9, b10⟩ := a5
    exact ⟨h1, h2, h3, by omega, b5, b6, b7, b8, b9, b10⟩
  · have := a1 w hw
    rw [if_pos hw] at this
    exact this
theorem nI_m9 {c : Nat} (h : c ≤ 1000000) : ¬ nI c = -900000001 := fun z => by
  have h1 := nI_toInt (n := c) (by omega)
  have h2 : (-900000001 : Int32).toInt = -900000001 := by decide +kernel
  rw [z, h2] at h1
  omega
theorem c_ok (h : JK nw no nt wk κ) : cOK (nw, no, nt, wk, κ) := by
  have hL : ∀ (wk : Nat) (κ : cS), jO κ no → ∀ k, k < no → leftF k (nw, no, nt, wk, κ) = κ 15 k 2 ∧ ¬ leftF k (nw, no, nt, wk, κ) < 0 := fun wk κ hO k hk => by
    have e : leftF k (nw, no, nt, wk, κ) = κ 15 k 2 := if_pos hk
    refine ⟨e, ?_⟩
    rw [e, Int32.lt_iff_toInt_lt, i_0]
    have := (hO.1 k hk).1
    omega
  refine ⟨fun k hk => (hL wk κ h.2.2.2.1 k hk).2, ?_⟩
  by_cases hk : wk < 31
  · have hJ := J_close h hk
    obtain ⟨a1, a2, a3, a4, a5, a6, a7, a8, c, a9, a10⟩ := jC_all h hk
    have hn8 : nw ≤ 8 := h.1.1
    refine Or.inr ⟨(csC κ nw no wk 8).2, (nw, no, nt, wk + 1, (csC κ nw no wk 8).1), if_pos hk, hk, rfl, rfl, rfl, hJ.1, by rw [a10]; exact nI_m9 (by omega), fun k hk2 => (hL (wk + 1) _ a3 k hk2).2, fun w hw => ?_, a8.symm, ?_, ?_⟩
    · obtain ⟨q, q1, q2⟩ := a5.2.2.2.2.2.1 w hw
      have e : ackF w (nw, no, nt, wk + 1, (csC κ nw no wk 8).1) = (csC κ nw no wk 8).1 4 w 1 := if_pos hw
      rw [e, q2]
      exact nI_pos (by omega)
    · rw [dS_gS, dS_gS, gS_eq (a := fun k => leftF k (nw, no, nt, wk, κ)) (b := fun k => κ 15 k 2) no (fun k hk2 => (hL wk κ h.2.2.2.1 k hk2).1)]
      show _ - gS (fun k => leftF k (nw, no, nt, wk + 1, (csC κ nw no wk 8).1)) no = 0
      rw [gS_eq (a := fun k => leftF k (nw, no, nt, wk + 1, (csC κ nw no wk 8).1)) (b := fun k => (csC κ nw no wk 8).1 15 k 2) no (fun k hk2 => (hL (wk + 1) _ a3 k hk2).1)]
      show gS (fun k => κ 15 k 2) no - gS (fun w => spC (csC κ nw no wk 8).1 w wk 2) nw - gS (fun k => (csC κ nw no wk 8).1 15 k 2) no = 0
      rw [← a6]
      grind
    · rw [dS_gS]
      show P3 κ - gS (fun w => spC (csC κ nw no wk 8).1 w wk 0 - spC (csC κ nw no wk 8).1 w wk 1) nw = P3 (csC κ nw no wk 8).1
      rw [← a7]
      grind
  · exact Or.inl ⟨by have := h.1.2.2.2.1; show wk = 31; omega, if_neg hk⟩
theorem ds_all2 {w : Nat} (hI : Ic nw no nt wk κ) (hw : w < nw) : ∀ n, n ≤ 20 → dsC κ w 0 (nI wk) n = gS (fun k => if k ≤ wk then dsC κ w (nI k) (nI k) n else 0) 31
  | 0, _ => (gS_zero 31 (fun k _ => by
      show (if k ≤ wk then (0 : Int32) else 0) = 0
      split <;> rfl)).symm
  | n + 1, hn => by
    have ih := ds_all2 hI hw n (by omega)
    have h31 : wk ≤ 31 := hI.2.2.2.1
    have e1 : gS (fun k => if k ≤ wk then dsC κ w (nI k) (nI k) (n + 1) else 0) 31 = gS (fun k => (if k ≤ wk then dsC κ w (nI k) (nI k) n else 0) + (if k ≤ wk then (if ¬ κ 7 w n = -1 ∧ ¬ κ 7 w n < nI k ∧ ¬ nI k < κ 7 w n then pyC κ w n else 0) else 0)) 31 := gS_eq 31 (fun k _ => by
      by_cases z : k ≤ wk
      · rw [if_pos z, if_pos z, if_pos z]; rfl
      · rw [if_neg z, if_neg z, if_neg z]; rfl)
    rw [e1, gS_add, ← ih]
    refine congrArg (dsC κ w 0 (nI wk) n + ·) ?_
    rcases hI.2.2.2.2.2.2.1 w hw n (by omega) with h7 | ⟨q, hq, h7⟩
    · rw [if_neg (fun z => z.1 h7), gS_zero 31 (fun k _ => ?_)]
      rw [if_neg (fun z : ¬ κ 7 w n = -1 ∧ ¬ κ 7 w n < nI k ∧ ¬ nI k < κ 7 w n => z.1 h7)]
      split <;> rfl
    · rw [h7]
      have hm : ¬ nI q = -1 := nI_nm1 (by omega)
      by_cases z : q ≤ wk
      · rw [if_pos ⟨hm, nI_pos (by omega), nI_lg z (by omega)⟩, gS_one (q := q) 31 hq (fun k _ hne => ?_)]
        · rw [if_pos z, if_pos ⟨hm, Int32.lt_irrefl, Int32.lt_irrefl⟩]
        · by_cases zk : k ≤ wk
          · rw [if_pos zk]
            rcases Nat.lt_or_ge k q with l | l
            · exact if_neg (fun y => y.2.2 (nI_lt l (by omega)))
            · exact if_neg (fun y => y.2.1 (nI_lt (by omega) (by omega)))
          · exact if_neg zk
      · rw [if_neg (fun y : ¬ nI q = -1 ∧ ¬ nI q < 0 ∧ ¬ nI wk < nI q => y.2.2 (nI_lt (by omega) (by omega))), gS_zero 31 (fun k _ => ?_)]
        by_cases zk : k ≤ wk
        · rw [if_pos zk]
          exact if_neg (fun y => y.2.2 (nI_lt (by omega) (by omega)))
        · exact if_neg zk
theorem w_ok (h : JK nw no nt wk κ) {w : Nat} (hw : w < nw) : wOK (nw, no, nt, wk, κ) w := by
  obtain ⟨hI, H1, H2, H3, H4⟩ := h
  obtain ⟨⟨⟨a1, a2⟩, a3, a4⟩, b, c, d, f, g⟩ := H1 w hw
  obtain ⟨cn, hcn, hc⟩ := hI.2.2.2.2.2.1 w hw
  have neg : ∀ {x : Int32}, 0 ≤ x.toInt → ¬ x < 0 := fun {x} hx z => by
    rw [Int32.lt_iff_toInt_lt, i_0] at z
    omega
  refine ⟨(cbs_eq f).symm, neg a3, by show ¬ κ 4 w 1 < 0; rw [hc]; exact nI_pos (by omega), by show ¬ (20 : Int32) < κ 4 w 1; rw [hc]; exact nI_lg (b := 20) hcn (by decide), fun k hk => ?_, ?_⟩
  · obtain ⟨s0, s1, s2, s3, s4⟩ := c k hk
    exact ⟨neg (du_rng hI hw b H2).1, neg s0, s1, neg s2, neg s3, s4, fun hwk => sp_k (d k hwk hk)⟩
  · show clC κ wk w = gS (dF (nw, no, nt, wk, κ) w) 31 - gS (fun k => spC κ w k 0) 31 + gS (fun k => spC κ w k 1) 31 + κ 4 w 3
    have e1 : gS (dF (nw, no, nt, wk, κ) w) 31 = duC κ w 0 (nI wk) := by
      unfold duC
      rw [hc, nI_clamp (n := cn) (by omega), ds_all2 hI hw cn hcn]
      refine gS_eq 31 (fun k _ => ?_)
      show (if k ≤ wk then duC κ w (nI k) (nI k) else 0) = _
      unfold duC
      rw [hc, nI_clamp (n := cn) (by omega)]
    have e2 : clC κ wk w = duC κ w 0 (nI wk) - κ 4 w 2 := rfl
    rw [e1, e2, ← f, ← g]
    grind
end CLS
