theorem nI_inj2 {a b : Nat} (h : nI a = nI b) (ha : a < 2 ^ 31) (hb : b < 2 ^ 31) : a = b := (nI_eq ha hb).mp h
theorem inr_nI {j n : Nat} (h : j ≤ n) (hn : n < 2 ^ 31) : inr (nI j) 0 (nI n) := ⟨nI_pos' (by omega), nI_le h hn⟩
theorem inr_wI {j n : Nat} (h : j < n) (hn : n < 2 ^ 31) : inr (nI j) 0 (nI n - 1) := by
  obtain ⟨b, rfl⟩ : ∃ b, n = b + 1 := ⟨n - 1, by omega⟩
  rw [nI_pred]
  exact inr_nI (by omega) (by omega)
theorem iX9_addWorker_9 : ∀ w ∈ wsX90, w ∈ wsX9_addWorker := by decide +kernel
set_option maxHeartbeats 4000000 in
set_option maxRecDepth 100000 in
/-- the reference: addWorker -/
theorem c_X9_addWorker (l : Launch) (D : va_G) (A : Nat → Prop) (y : Nat → ClassId) (sa : Nat → Nat) (f : fw_F) (β : Nat → Nat) (μ : mS) (p0 : Int32) (nw wk no nt : Nat) (hI : Im μ nw wk no nt) (hR : Rm y μ β f) : Met l yX9_addWorker wsX9_addWorker ({ frames := 1, cells := 0, slots := 0, locals := 22 } : Room) (cPc D A y sa f [.ref (β 0), .int p0]) (cQi D A (fun r f1 => (¬ inr p0 0 2 ∧ r = 0 ∧ Rm y (up2 μ 0 0 1) β f1) ∨ (inr p0 0 2 ∧ nI nw = 8 ∧ r = 0 ∧ Rm y (up2 μ 0 0 2) β f1) ∨ (inr p0 0 2 ∧ ¬ nI nw = 8 ∧ r = nI nw ∧ Rm y (up2 (up2 (up2 μ 0 0 0) 3 nw p0) 2 0 (nI (nw + 1))) β f1))) 0 0 A := by
  refine fw_met (by decide) rfl [.ref (β 0), .int p0] (Nat.le_of_ble_eq_true rfl) ?_
  intro p e s m args below meth c ls I hin hE hw hl
  obtain ⟨hx, hb, hr, hts, hown, hlocks, hml⟩ := I
  have hown : s.vm.findClass RX9 = some m.cls := hown
  have hl : lv_has ls 2 [(0, .ref (β 0)), (1, .int p0)] := hl
  obtain ⟨hI1, hI2, hI3, hI4, hI5, hI6, hI7, hI8, hI9, hI10, hI11, hI12, hI13⟩ := id hI
  refine lv_aload_n hx hb dX9_addWorker_0 rfl (lv_at hl 0 rfl) ?_
  refine lv_iload_n hx hb dX9_addWorker_1 rfl (lv_at hl 1 rfl) ?_
  refine lv_iconst (v := 0) hx hb dX9_addWorker_2 (by decide) ?_
  refine lv_iconst (v := 2) hx hb dX9_addWorker_3 (by decide) ?_
  refine fw_callSi hx hb hml hown hts hE hw [.int p0, .int 0, .int 2] [.ref (β 0)] (c_X9_in l D A y sa f p0 0 2) (va_cwS 3 hts gX9_addWorker_X9_in rfl rfl rfl (by decide +kernel) ⟨Nat.le_of_ble_eq_true rfl, Nat.le_of_ble_eq_true rfl⟩) rfl hl.1 rfl (Nat.le_of_ble_eq_true rfl) dX9_addWorker_4 ⟨Nat.le_of_ble_eq_true rfl, Nat.le_of_ble_eq_true rfl⟩ (fun r1 f2 H locs hp3 hw => ?_)
  obtain ⟨hp3a, hp3b⟩ := hp3
  rw [hp3b] at hw
  rw [hp3a]
  refine lv_if_ne (tgt := 14) hx hb dX9_addWorker_7 (by decide) (fun c_4 => ?_) (fun c_4 => ?_)
  · have c_4 := fw_b1 c_4
    refine lv_aload_n hx hb dX9_addWorker_14 rfl (lv_at hl 0 rfl) ?_
    refine fw_get hx hb hts hown hE.1.1 hw (ci := 9) (fs := [.int (μ 0 0), .int (μ 1 0), .int (μ 2 0), .ref (β 3), .ref (β 4), .ref (β 5), .ref (β 6), .ref (β 7), .ref (β 8), .ref (β 9), .ref (β 10), .ref (β 11), .ref (β 12), .int (μ 13 0), .ref (β 14), .ref (β 15), .ref (β 16), .ref (β 17), .int (μ 18 0), .ref (β 19), .ref (β 20), .int (μ 21 0), .ref (β 22), .ref (β 23), .ref (β 24)]) (v := .int (μ 2 0)) hR.o iX9_addWorker_9 rfl 2 (by decide) rfl (by decide +kernel) dX9_addWorker_15 ?_
    rw [hI1]
    refine lv_bipush (v := 8) hx hb dX9_addWorker_18 (by decide) ?_
    refine lv_icmp_ne (tgt := 27) hx hb dX9_addWorker_20 (by decide) (fun c_5 => ?_) (fun c_5 => ?_)
    · refine lv_iconst (v := 0) hx hb dX9_addWorker_27 (by decide) ?_
      refine fw_callVi hx hb hml hown hts hE hw [.int 0] [] (c_X9_holds l D A y sa f β μ 0 hR) (cwV 1 hts gX9_addWorker_X9_holds rfl rfl rfl (by decide +kernel) ⟨Nat.le_of_ble_eq_true rfl, Nat.le_of_ble_eq_true rfl⟩) (ci := 9) rfl rfl hR.o rfl hl.1 rfl (Nat.le_of_ble_eq_true rfl) dX9_addWorker_28 ⟨Nat.le_of_ble_eq_true rfl, Nat.le_of_ble_eq_true rfl⟩ (fun r6 f7 H locs hp8 hw => ?_)
      obtain ⟨hp8a, hR⟩ := hp8
      rw [if_pos rfl] at hp8a
      rw [hp8a]
      refine lv_if_ne (tgt := 36) hx hb dX9_addWorker_31 (by decide) (fun _ => ?_) (fun c_9 => absurd c_9 (by decide))
      have hn8 : nw < 8 := by rcases Nat.lt_or_ge nw 8 with q | q; exact q; exact absurd (by rw [show nw = 8 by omega]; rfl) c_5
      refine lv_aload_n hx hb dX9_addWorker_36 rfl (lv_at hl 0 rfl) ?_
      refine fw_get hx hb hts hown hE.1.1 hw (ci := 9) (fs := [.int 0, .int (μ 1 0), .int (μ 2 0), .ref (β 3), .ref (β 4), .ref (β 5), .ref (β 6), .ref (β 7), .ref (β 8), .ref (β 9), .ref (β 10), .ref (β 11), .ref (β 12), .int (μ 13 0), .ref (β 14), .ref (β 15), .ref (β 16), .ref (β 17), .int (μ 18 0), .ref (β 19), .ref (β 20), .int (μ 21 0), .ref (β 22), .ref (β 23), .ref (β 24)]) (v := .ref (β 3)) hR.o iX9_addWorker_9 rfl 3 (by decide) rfl (by decide +kernel) dX9_addWorker_37 ?_
      refine lv_aload_n hx hb dX9_addWorker_40 rfl (lv_at hl 0 rfl) ?_
      refine fw_get hx hb hts hown hE.1.1 hw (ci := 9) (fs := [.int 0, .int (μ 1 0), .int (μ 2 0), .ref (β 3), .ref (β 4), .ref (β 5), .ref (β 6), .ref (β 7), .ref (β 8), .ref (β 9), .ref (β 10), .ref (β 11), .ref (β 12), .int (μ 13 0), .ref (β 14), .ref (β 15), .ref (β 16), .ref (β 17), .int (μ 18 0), .ref (β 19), .ref (β 20), .int (μ 21 0), .ref (β 22), .ref (β 23), .ref (β 24)]) (v := .int (μ 2 0)) hR.o iX9_addWorker_9 rfl 2 (by decide) rfl (by decide +kernel) dX9_addWorker_41 ?_
      rw [hI1]
      refine lv_iload_n hx hb dX9_addWorker_44 rfl (lv_at hl 1 rfl) ?_
      refine fw_iast hx hb hE.1.1 hw (g := (μ 3)) hR.a3 0 rfl (vp_in_nI (by omega) (by decide)) dX9_addWorker_45 (fun H locs hw => ?_)
      rw [nI_clamp (n := nw) (by omega)] at hw
      obtain ⟨f10, ef10⟩ : ∃ z, z = fw_up f7 (β 3) (.inl (y 0, 8, .inl (va_up (μ 3) nw p0))) := ⟨_, rfl⟩
      have hw : fw_S D A s.heap f10 H locs := by rw [ef10]; exact hw
      have hR : Rm y (up2 (up2 μ 0 0 0) 3 nw p0) β f10 := by rw [ef10]; exact hR.s3 nw p0
      refine lv_aload_n hx hb dX9_addWorker_46 rfl (lv_at hl 0 rfl) ?_
      refine lv_dup hx hb dX9_addWorker_47 rfl ?_
      refine fw_get hx hb hts hown hE.1.1 hw (ci := 9) (fs := [.int 0, .int (μ 1 0), .int (μ 2 0), .ref (β 3), .ref (β 4), .ref (β 5), .ref (β 6), .ref (β 7), .ref (β 8), .ref (β 9), .ref (β 10), .ref (β 11), .ref (β 12), .int (μ 13 0), .ref (β 14), .ref (β 15), .ref (β 16), .ref (β 17), .int (μ 18 0), .ref (β 19), .ref (β 20), .int (μ 21 0), .ref (β 22), .ref (β 23), .ref (β 24)]) (v := .int (μ 2 0)) hR.o iX9_addWorker_9 rfl 2 (by decide) rfl (by decide +kernel) dX9_addWorker_48 ?_
      rw [hI1]
      refine lv_iconst (v := 1) hx hb dX9_addWorker_51 (by decide) ?_
      refine lv_iadd hx hb dX9_addWorker_52 ?_
      rw [show (((nI nw) + 1) : Int32) = (nI (nw + 1)) from nI_add (nw) (1)]
      refine fw_put hx hb hts hown hE.1.1 hw (ci := 9) (fs := [.int 0, .int (μ 1 0), .int (μ 2 0), .ref (β 3), .ref (β 4), .ref (β 5), .ref (β 6), .ref (β 7), .ref (β 8), .ref (β 9), .ref (β 10), .ref (β 11), .ref (β 12), .int (μ 13 0), .ref (β 14), .ref (β 15), .ref (β 16), .ref (β 17), .int (μ 18 0), .ref (β 19), .ref (β 20), .int (μ 21 0), .ref (β 22), .ref (β 23), .ref (β 24)]) (v := .int (nI (nw + 1))) hR.o iX9_addWorker_9 tyX9 tyX9_ok nmX9 rfl 2 (by decide) rfl rfl rfl (Nat.le_of_ble_eq_true rfl) (by decide +kernel) dX9_addWorker_53 (fun H locs hw => ?_)
      obtain ⟨f11, ef11⟩ : ∃ z, z = fw_up f10 (β 0) (.inr (9, [.int 0, .int (μ 1 0), .int (nI (nw + 1)), .ref (β 3), .ref (β 4), .ref (β 5), .ref (β 6), .ref (β 7), .ref (β 8), .ref (β 9), .ref (β 10), .ref (β 11), .ref (β 12), .int (μ 13 0), .ref (β 14), .ref (β 15), .ref (β 16), .ref (β 17), .int (μ 18 0), .ref (β 19), .ref (β 20), .int (μ 21 0), .ref (β 22), .ref (β 23), .ref (β 24)])) := ⟨_, rfl⟩
      have hw : fw_S D A s.heap f11 H locs := by rw [ef11]; exact hw
      have hR : Rm y (up2 (up2 (up2 μ 0 0 0) 3 nw p0) 2 0 (nI (nw + 1))) β f11 := by rw [ef11]; exact hR.p2 (nI (nw + 1))
      refine lv_aload_n hx hb dX9_addWorker_56 rfl (lv_at hl 0 rfl) ?_
      refine fw_get hx hb hts hown hE.1.1 hw (ci := 9) (fs := [.int 0, .int (μ 1 0), .int (nI (nw + 1)), .ref (β 3), .ref (β 4), .ref (β 5), .ref (β 6), .ref (β 7), .ref (β 8), .ref (β 9), .ref (β 10), .ref (β 11), .ref (β 12), .int (μ 13 0), .ref (β 14), .ref (β 15), .ref (β 16), .ref (β 17), .int (μ 18 0), .ref (β 19), .ref (β 20), .int (μ 21 0), .ref (β 22), .ref (β 23), .ref (β 24)]) (v := .int (nI (nw + 1))) hR.o iX9_addWorker_9 rfl 2 (by decide) rfl (by decide +kernel) dX9_addWorker_57 ?_
      refine lv_iconst (v := 1) hx hb dX9_addWorker_60 (by decide) ?_
      refine lv_isub hx hb dX9_addWorker_61 ?_
      exact fw_iret hx hb hr hlocks hw (Nat.le_of_ble_eq_true rfl) (Nat.le_of_ble_eq_true rfl) dX9_addWorker_62 (Or.inr (Or.inr (⟨by assumption, by assumption, nI_pred _, hR⟩)))
    · refine lv_iconst (v := 2) hx hb dX9_addWorker_23 (by decide) ?_
      refine lv_goto (tgt := 28) hx hb dX9_addWorker_24 (by decide) ?_
      refine fw_callVi hx hb hml hown hts hE hw [.int 2] [] (c_X9_holds l D A y sa f β μ 2 hR) (cwV 1 hts gX9_addWorker_X9_holds rfl rfl rfl (by decide +kernel) ⟨Nat.le_of_ble_eq_true rfl, Nat.le_of_ble_eq_true rfl⟩) (ci := 9) rfl rfl hR.o rfl hl.1 rfl (Nat.le_of_ble_eq_true rfl) dX9_addWorker_28 ⟨Nat.le_of_ble_eq_true rfl, Nat.le_of_ble_eq_true rfl⟩ (fun r12 f13 H locs hp14 hw => ?_)
      obtain ⟨hp14a, hR⟩ := hp14
      rw [if_neg (by decide)] at hp14a
      rw [hp14a]
      refine lv_if_ne (tgt := 36) hx hb dX9_addWorker_31 (by decide) (fun c_15 => absurd c_15 (by decide)) (fun _ => ?_)
      refine lv_iconst (v := 0) hx hb dX9_addWorker_34 (by decide) ?_
      exact fw_iret hx hb hr hlocks hw (Nat.le_of_ble_eq_true rfl) (Nat.le_of_ble_eq_true rfl) dX9_addWorker_35 (Or.inr (Or.inl (⟨(by first | assumption | exact fun z => absurd z.1 (by assumption) | exact fun z => absurd z.2.1 (by assumption) | exact fun z => absurd z.2.2.1 (by assumption) | exact fun z => absurd z.2.2.2 (by assumption) | exact fun z => absurd z.2 (by assumption) | exact fun z => absurd z.2.2 (by assumption)), (by first | assumption | exact fun z => absurd z.1 (by assumption) | exact fun z => absurd z.2.1 (by assumption) | exact fun z => absurd z.2.2.1 (by assumption) | exact fun z => absurd z.2.2.2 (by assumption) | exact fun z => absurd z.2 (by assumption) | exact fun z => absurd z.2.2 (by assumption)), rfl, hR⟩)))
  · have c_4 := fw_b0 c_4
    refine lv_iconst (v := 1) hx hb dX9_addWorker_10 (by decide) ?_
    refine lv_goto (tgt := 28) hx hb dX9_addWorker_11 (by decide) ?_
    refine fw_callVi hx hb hml hown hts hE hw [.int 1] [] (c_X9_holds l D A y sa f β μ 1 hR) (cwV 1 hts gX9_addWorker_X9_holds rfl rfl rfl (by decide +kernel) ⟨Nat.le_of_ble_eq_true rfl, Nat.le_of_ble_eq_true rfl⟩) (ci := 9) rfl rfl hR.o rfl hl.1 rfl (Nat.le_of_ble_eq_true rfl) dX9_addWorker_28 ⟨Nat.le_of_ble_eq_true rfl, Nat.le_of_ble_eq_true rfl⟩ (fun r16 f17 H locs hp18 hw => ?_)
    obtain ⟨hp18a, hR⟩ := hp18
    rw [if_neg (by decide)] at hp18a
    rw [hp18a]
    refine lv_if_ne (tgt := 36) hx hb dX9_addWorker_31 (by decide) (fun c_19 => absurd c_19 (by decide)) (fun _ => ?_)
    refine lv_iconst (v := 0) hx hb dX9_addWorker_34 (by decide) ?_
    exact fw_iret hx hb hr hlocks hw (Nat.le_of_ble_eq_true rfl) (Nat.le_of_ble_eq_true rfl) dX9_addWorker_35 (Or.inl (⟨(by first | assumption | exact fun z => absurd z.1 (by assumption) | exact fun z => absurd z.2.1 (by assumption) | exact fun z => absurd z.2.2.1 (by assumption) | exact fun z => absurd z.2.2.2 (by assumption) | exact fun z => absurd z.2 (by assumption) | exact fun z => absurd z.2.2 (by assumption)), rfl, hR⟩))

theorem iX9_setRank_9 : ∀ w ∈ wsX90, w ∈ wsX9_setRank := by decide +kernel
set_option maxHeartbeats 4000000 in
set_option maxRecDepth 100000 in
/-- the reference: setRank -/
theorem c_X9_setRank (l : Launch) (D : va_G) (A : Nat → Prop) (y : Nat → ClassId) (sa : Nat → Nat) (f : fw_F) (β : Nat → Nat) (μ : mS) (p0 p1 p2 : Int32) (nw wk no nt : Nat) (hI : Im μ nw wk no nt) (hR : Rm y μ β f) : Met l yX9_setRank wsX9_setRank ({ frames := 2, cells := 0, slots := 0, locals := 43 } : Room) (cPc D A y sa f [.ref (β 0), .int p0, .int p1, .int p2]) (cQi D A (fun r f1 => (¬ (inr p0 0 (nI nw - 1) ∧ inr p2 0 2) ∧ r = 0 ∧ Rm y (up2 μ 0 0 1) β f1) ∨ (inr p0 0 (nI nw - 1) ∧ inr p2 0 2 ∧ ¬ inr p1 0 30 ∧ r = 0 ∧ Rm y (up2 μ 0 0 2) β f1) ∨ (∃ wv kv, wv < nw ∧ kv ≤ 30 ∧ p0 = nI wv ∧ p1 = nI kv ∧ inr p2 0 2 ∧ r = μ 4 (tld (μ 4) (31 * wv + kv)) ∧ Rm y (up2 (up2 μ 0 0 0) 4 (31 * wv + kv) p2) β f1))) 0 0 A := by
  refine fw_met (by decide) rfl [.ref (β 0), .int p0, .int p1, .int p2] (Nat.le_of_ble_eq_true rfl) ?_
  intro p e s m args below meth c ls I hin hE hw hl
  obtain ⟨hx, hb, hr, hts, hown, hlocks, hml⟩ := I
  have hown : s.vm.findClass RX9 = some m.cls := hown
  have hl : lv_has ls 6 [(0, .ref (β 0)), (1, .int p0), (2, .int p1), (3, .int p2)] := hl
  obtain ⟨hI1, hI2, hI3, hI4, hI5, hI6, hI7, hI8, hI9, hI10, hI11, hI12, hI13⟩ := id hI
  refine lv_aload_n hx hb dX9_setRank_0 rfl (lv_at hl 0 rfl) ?_
  refine lv_iload_n hx hb dX9_setRank_1 rfl (lv_at hl 1 rfl) ?_
  refine fw_callVi hx hb hml hown hts hE hw [.int p0] [] (c_X9_isWorker l D A y sa f β μ p0 hR) (cwV 1 hts gX9_setRank_X9_isWorker rfl rfl rfl (by decide +kernel) ⟨Nat.le_of_ble_eq_true rfl, Nat.le_of_ble_eq_true rfl⟩) (ci := 9) rfl rfl hR.o rfl hl.1 rfl (Nat.le_of_ble_eq_true rfl) dX9_setRank_2 ⟨Nat.le_of_ble_eq_true rfl, Nat.le_of_ble_eq_true rfl⟩ (fun r1 f2 H locs hp3 hw => ?_)
  obtain ⟨hp3a, hp3b⟩ := hp3
  rw [hp3b] at hw
  have hp3c : r1 = (if inr p0 0 (nI nw - 1) then 1 else 0) := hp3a.trans (by rw [show μ 2 0 = nI nw from hI1])
  rw [hp3c]
  refine lv_if_eq (tgt := 21) hx hb dX9_setRank_5 (by decide) (fun c_4 => ?_) (fun c_4 => ?_)
  · have c_4 := fw_b0 c_4
    refine lv_iconst (v := 0) hx hb dX9_setRank_21 (by decide) ?_
    refine lv_istore (lv' := [(4, .int 0), (0, .ref (β 0)), (1, .int p0), (2, .int p1), (3, .int p2)]) hx hb dX9_setRank_22 hl (by decide) rfl (fun ls hl => ?_)
    refine lv_aload_n hx hb dX9_setRank_24 rfl (lv_at hl 1 rfl) ?_
    refine lv_iload hx hb dX9_setRank_25 (lv_at hl 0 rfl) ?_
    refine lv_if_ne (tgt := 34) hx hb dX9_setRank_27 (by decide) (fun c_5 => absurd c_5 (by decide)) (fun _ => ?_)
    refine lv_iconst (v := 1) hx hb dX9_setRank_30 (by decide) ?_
    refine lv_goto (tgt := 46) hx hb dX9_setRank_31 (by decide) ?_
    refine fw_callVi hx hb hml hown hts hE hw [.int 1] [] (c_X9_holds l D A y sa f β μ 1 hR) (cwV 1 hts gX9_setRank_X9_holds rfl rfl rfl (by decide +kernel) ⟨Nat.le_of_ble_eq_true rfl, Nat.le_of_ble_eq_true rfl⟩) (ci := 9) rfl rfl hR.o rfl hl.1 rfl (Nat.le_of_ble_eq_true rfl) dX9_setRank_46 ⟨Nat.le_of_ble_eq_true rfl, Nat.le_of_ble_eq_true rfl⟩ (fun r6 f7 H locs hp8 hw => ?_)
    obtain ⟨hp8a, hR⟩ := hp8
    rw [if_neg (by decide)] at hp8a
    rw [hp8a]
    refine lv_if_ne (tgt := 54) hx hb dX9_setRank_49 (by decide) (fun c_9 => absurd c_9 (by decide)) (fun _ => ?_)
    refine lv_iconst (v := 0) hx hb dX9_setRank_52 (by decide) ?_
    exact fw_iret hx hb hr hlocks hw (Nat.le_of_ble_eq_true rfl) (Nat.le_of_ble_eq_true rfl) dX9_setRank_53 (Or.inl (⟨(by first | assumption | exact fun z => absurd z.1 (by assumption) | exact fun z => absurd z.2.1 (by assumption) | exact fun z => absurd z.2.2.1 (by assumption) | exact fun z => absurd z.2.2.2 (by assumption) | exact fun z => absurd z.2 (by assumption) | exact fun z => absurd z.2.2 (by assumption)), rfl, hR⟩))
  · have c_4 := fw_b1 c_4
    refine lv_iload_n hx hb dX9_setRank_8 rfl (lv_at hl 3 rfl) ?_
    refine lv_iconst (v := 0) hx hb dX9_setRank_9 (by decide) ?_
    refine lv_iconst (v := 2) hx hb dX9_setRank_10 (by decide) ?_
    refine fw_callSi hx hb hml hown hts hE hw [.int p2, .int 0, .int 2] [] (c_X9_in l D A y sa f p2 0 2) (va_cwS 3 hts gX9_setRank_X9_in rfl rfl rfl (by decide +kernel) ⟨Nat.le_of_ble_eq_true rfl, Nat.le_of_ble_eq_true rfl⟩) rfl hl.1 rfl (Nat.le_of_ble_eq_true rfl) dX9_setRank_11 ⟨Nat.le_of_ble_eq_true rfl, Nat.le_of_ble_eq_true rfl⟩ (fun r10 f11 H locs hp12 hw => ?_)
    obtain ⟨hp12a, hp12b⟩ := hp12
    rw [hp12b] at hw
    rw [hp12a]
    refine lv_if_eq (tgt := 21) hx hb dX9_setRank_14 (by decide) (fun c_13 => ?_) (fun c_13 => ?_)
    · have c_13 := fw_b0 c_13
      refine lv_iconst (v := 0) hx hb dX9_setRank_21 (by decide) ?_
      refine lv_istore (lv' := [(4, .int 0), (0, .ref (β 0)), (1, .int p0), (2, .int p1), (3, .int p2)]) hx hb dX9_setRank_22 hl (by decide) rfl (fun ls hl => ?_)
      refine lv_aload_n hx hb dX9_setRank_24 rfl (lv_at hl 1 rfl) ?_
      refine lv_iload hx hb dX9_setRank_25 (lv_at hl 0 rfl) ?_
      refine lv_if_ne (tgt := 34) hx hb dX9_setRank_27 (by decide) (fun c_14 => absurd c_14 (by decide)) (fun _ => ?_)
      refine lv_iconst (v := 1) hx hb dX9_setRank_30 (by decide) ?_
      refine lv_goto (tgt := 46) hx hb dX9_setRank_31 (by decide) ?_
      refine fw_callVi hx hb hml hown hts hE hw [.int 1] [] (c_X9_holds l D A y sa f β μ 1 hR) (cwV 1 hts gX9_setRank_X9_holds rfl rfl rfl (by decide +kernel) ⟨Nat.le_of_ble_eq_true rfl, Nat.le_of_ble_eq_true rfl⟩) (ci := 9) rfl rfl hR.o rfl hl.1 rfl (Nat.le_of_ble_eq_true rfl) dX9_setRank_46 ⟨Nat.le_of_ble_eq_true rfl, Nat.le_of_ble_eq_true rfl⟩ (fun r15 f16 H locs hp17 hw => ?_)
      obtain ⟨hp17a, hR⟩ := hp17
      rw [if_neg (by decide)] at hp17a
      rw [hp17a]
      refine lv_if_ne (tgt := 54) hx hb dX9_setRank_49 (by decide) (fun c_18 => absurd c_18 (by decide)) (fun _ => ?_)
      refine lv_iconst (v := 0) hx hb dX9_setRank_52 (by decide) ?_
      exact fw_iret hx hb hr hlocks hw (Nat.le_of_ble_eq_true rfl) (Nat.le_of_ble_eq_true rfl) dX9_setRank_53 (Or.inl (⟨(by first | assumption | exact fun z => absurd z.1 (by assumption) | exact fun z => absurd z.2.1 (by assumption) | exact fun z => absurd z.2.2.1 (by assumption) | exact fun z => absurd z.2.2.2 (by assumption) | exact fun z => absurd z.2 (by assumption) | exact fun z => absurd z.2.2 (by assumption)), rfl, hR⟩))
    · have c_13 := fw_b1 c_13
      refine lv_iconst (v := 1) hx hb dX9_setRank_17 (by decide) ?_
      refine lv_goto (tgt := 22) hx hb dX9_setRank_18 (by decide) ?_
      refine lv_istore (lv' := [(4, .int 1), (0, .ref (β 0)), (1, .int p0), (2, .int p1), (3, .int p2)]) hx hb dX9_setRank_22 hl (by decide) rfl (fun ls hl => ?_)
      refine lv_aload_n hx hb dX9_setRank_24 rfl (lv_at hl 1 rfl) ?_
      refine lv_iload hx hb dX9_setRank_25 (lv_at hl 0 rfl) ?_
      refine lv_if_ne (tgt := 34) hx hb dX9_setRank_27 (by decide) (fun _ => ?_) (fun c_19 => absurd c_19 (by decide))
      refine lv_iload_n hx hb dX9_setRank_34 rfl (lv_at hl 3 rfl) ?_
      refine fw_callSi hx hb hml hown hts hE hw [.int p1] [.ref (β 0)] (c_X9_isWeek l D A y sa f p1) (va_cwS 1 hts gX9_setRank_X9_isWeek rfl rfl rfl (by decide +kernel) ⟨Nat.le_of_ble_eq_true rfl, Nat.le_of_ble_eq_true rfl⟩) rfl hl.1 rfl (Nat.le_of_ble_eq_true rfl) dX9_setRank_35 ⟨Nat.le_of_ble_eq_true rfl, Nat.le_of_ble_eq_true rfl⟩ (fun r20 f21 H locs hp22 hw => ?_)
      obtain ⟨hp22a, hp22b⟩ := hp22
      rw [hp22b] at hw
      rw [hp22a]
      refine lv_if_eq (tgt := 45) hx hb dX9_setRank_38 (by decide) (fun c_23 => ?_) (fun c_23 => ?_)
      · have c_23 := fw_b0 c_23
        refine lv_iconst (v := 2) hx hb dX9_setRank_45 (by decide) ?_
        refine fw_callVi hx hb hml hown hts hE hw [.int 2] [] (c_X9_holds l D A y sa f β μ 2 hR) (cwV 1 hts gX9_setRank_X9_holds rfl rfl rfl (by decide +kernel) ⟨Nat.le_of_ble_eq_true rfl, Nat.le_of_ble_eq_true rfl⟩) (ci := 9) rfl rfl hR.o rfl hl.1 rfl (Nat.le_of_ble_eq_true rfl) dX9_setRank_46 ⟨Nat.le_of_ble_eq_true rfl, Nat.le_of_ble_eq_true rfl⟩ (fun r24 f25 H locs hp26 hw => ?_)
        obtain ⟨hp26a, hR⟩ := hp26
        rw [if_neg (by decide)] at hp26a
        rw [hp26a]
        refine lv_if_ne (tgt := 54) hx hb dX9_setRank_49 (by decide) (fun c_27 => absurd c_27 (by decide)) (fun _ => ?_)
        refine lv_iconst (v := 0) hx hb dX9_setRank_52 (by decide) ?_
        exact fw_iret hx hb hr hlocks hw (Nat.le_of_ble_eq_true rfl) (Nat.le_of_ble_eq_true rfl) dX9_setRank_53 (Or.inr (Or.inl (⟨(by first | assumption | exact fun z => absurd z.1 (by assumption) | exact fun z => absurd z.2.1 (by assumption) | exact fun z => absurd z.2.2.1 (by assumption) | exact fun z => absurd z.2.2.2 (by assumption) | exact fun z => absurd z.2 (by assumption) | exact fun z => absurd z.2.2 (by assumption)), (by first | assumption | exact fun z => absurd z.1 (by assumption) | exact fun z => absurd z.2.1 (by assumption) | exact fun z => absurd z.2.2.1 (by assumption) | exact fun z => absurd z.2.2.2 (by assumption) | exact fun z => absurd z.2 (by assumption) | exact fun z => absurd z.2.2 (by assumption)), (by first | assumption | exact fun z => absurd z.1 (by assumption) | exact fun z => absurd z.2.1 (by assumption) | exact fun z => absurd z.2.2.1 (by assumption) | exact fun z => absurd z.2.2.2 (by assumption) | exact fun z => absurd z.2 (by assumption) | exact fun z => absurd z.2.2 (by assumption)), rfl, hR⟩)))
      · have c_23 := fw_b1 c_23
        refine lv_iconst (v := 0) hx hb dX9_setRank_41 (by decide) ?_
        refine lv_goto (tgt := 46) hx hb dX9_setRank_42 (by decide) ?_
        refine fw_callVi hx hb hml hown hts hE hw [.int 0] [] (c_X9_holds l D A y sa f β μ 0 hR) (cwV 1 hts gX9_setRank_X9_holds rfl rfl rfl (by decide +kernel) ⟨Nat.le_of_ble_eq_true rfl, Nat.le_of_ble_eq_true rfl⟩) (ci := 9) rfl rfl hR.o rfl hl.1 rfl (Nat.le_of_ble_eq_true rfl) dX9_setRank_46 ⟨Nat.le_of_ble_eq_true rfl, Nat.le_of_ble_eq_true rfl⟩ (fun r28 f29 H locs hp30 hw => ?_)
        obtain ⟨hp30a, hR⟩ := hp30
        rw [if_pos rfl] at hp30a
        rw [hp30a]
        refine lv_if_ne (tgt := 54) hx hb dX9_setRank_49 (by decide) (fun _ => ?_) (fun c_31 => absurd c_31 (by decide))
        obtain ⟨wv, hwv, rfl⟩ := inr_w (n := nw) (by omega) c_4
        obtain ⟨kv, hkv, rfl⟩ := inr_of (n := 30) (by decide) c_23
        refine lv_aload_n hx hb dX9_setRank_54 rfl (lv_at hl 1 rfl) ?_
        refine fw_get hx hb hts hown hE.1.1 hw (ci := 9) (fs := [.int 0, .int (μ 1 0), .int (μ 2 0), .ref (β 3), .ref (β 4), .ref (β 5), .ref (β 6), .ref (β 7), .ref (β 8), .ref (β 9), .ref (β 10), .ref (β 11), .ref (β 12), .int (μ 13 0), .ref (β 14), .ref (β 15), .ref (β 16), .ref (β 17), .int (μ 18 0), .ref (β 19), .ref (β 20), .int (μ 21 0), .ref (β 22), .ref (β 23), .ref (β 24)]) (v := .ref (β 4)) hR.o iX9_setRank_9 rfl 4 (by decide) rfl (by decide +kernel) dX9_setRank_55 ?_
        refine lv_aload_n hx hb dX9_setRank_58 rfl (lv_at hl 1 rfl) ?_
        refine fw_get hx hb hts hown hE.1.1 hw (ci := 9) (fs := [.int 0, .int (μ 1 0), .int (μ 2 0), .ref (β 3), .ref (β 4), .ref (β 5), .ref (β 6), .ref (β 7), .ref (β 8), .ref (β 9), .ref (β 10), .ref (β 11), .ref (β 12), .int (μ 13 0), .ref (β 14), .ref (β 15), .ref (β 16), .ref (β 17), .int (μ 18 0), .ref (β 19), .ref (β 20), .int (μ 21 0), .ref (β 22), .ref (β 23), .ref (β 24)]) (v := .ref (β 4)) hR.o iX9_setRank_9 rfl 4 (by decide) rfl (by decide +kernel) dX9_setRank_59 ?_
        refine lv_iload_n hx hb dX9_setRank_62 rfl (lv_at hl 2 rfl) ?_
        refine lv_iload_n hx hb dX9_setRank_63 rfl (lv_at hl 3 rfl) ?_
        refine fw_callSi hx hb hml hown hts hE hw [.ref (β 4), .int (nI wv), .int (nI kv)] [.ref (β 4)] (c_X9_told l D A y sa f29 (β 4) 248 wv kv (μ 4) hR.a4 (by omega) (by omega) (hI9 wv (by omega))) (va_cwS 3 hts gX9_setRank_X9_told rfl rfl rfl (by decide +kernel) ⟨Nat.le_of_ble_eq_true rfl, Nat.le_of_ble_eq_true rfl⟩) rfl hl.1 rfl (Nat.le_of_ble_eq_true rfl) dX9_setRank_64 ⟨Nat.le_of_ble_eq_true rfl, Nat.le_of_ble_eq_true rfl⟩ (fun r32 f33 H locs hp34 hw => ?_)
        obtain ⟨hp34a, hp34b⟩ := hp34
        rw [hp34b] at hw
        rw [hp34a]
        have ht4 := tld_le (μ 4) (31 * wv + kv)
        refine fw_iald hx hb hE.1.1 hw (g := (μ 4)) hR.a4 0 rfl (vp_in_nI (by omega) (by decide)) dX9_setRank_67 ?_
        rw [nI_clamp (n := (tld (μ 4) (31 * wv + kv))) (by omega)]
        refine lv_istore (lv' := [(5, .int ((μ 4) (tld (μ 4) (31 * wv + kv)))), (4, .int 1), (0, .ref (β 0)), (1, .int (nI wv)), (2, .int (nI kv)), (3, .int p2)]) hx hb dX9_setRank_68 hl (by decide) rfl (fun ls hl => ?_)
        refine lv_aload_n hx hb dX9_setRank_70 rfl (lv_at hl 2 rfl) ?_
        refine fw_get hx hb hts hown hE.1.1 hw (ci := 9) (fs := [.int 0, .int (μ 1 0), .int (μ 2 0), .ref (β 3), .ref (β 4), .ref (β 5), .ref (β 6), .ref (β 7), .ref (β 8), .ref (β 9), .ref (β 10), .ref (β 11), .ref (β 12), .int (μ 13 0), .ref (β 14), .ref (β 15), .ref (β 16), .ref (β 17), .int (μ 18 0), .ref (β 19), .ref (β 20), .int (μ 21 0), .ref (β 22), .ref (β 23), .ref (β 24)]) (v := .ref (β 4)) hR.o iX9_setRank_9 rfl 4 (by decide) rfl (by decide +kernel) dX9_setRank_71 ?_
        refine lv_bipush (v := 31) hx hb dX9_setRank_74 (by decide) ?_
        refine lv_iload_n hx hb dX9_setRank_76 rfl (lv_at hl 3 rfl) ?_
        refine lv_imul hx hb dX9_setRank_77 ?_
        rw [show ((31 * (nI wv)) : Int32) = (nI (31 * wv)) from nI_mul (31) (wv)]
        refine lv_iload_n hx hb dX9_setRank_78 rfl (lv_at hl 4 rfl) ?_
        refine lv_iadd hx hb dX9_setRank_79 ?_
        rw [show (((nI (31 * wv)) + (nI kv)) : Int32) = (nI (((31 * wv)) + kv)) from nI_add ((31 * wv)) (kv)]
        refine lv_iload_n hx hb dX9_setRank_80 rfl (lv_at hl 5 rfl) ?_
        refine fw_iast hx hb hE.1.1 hw (g := (μ 4)) hR.a4 0 rfl (vp_in_nI (by omega) (by decide)) dX9_setRank_81 (fun H locs hw => ?_)
        rw [nI_clamp (n := (((31 * wv)) + kv)) (by omega)] at hw
        obtain ⟨f35, ef35⟩ : ∃ z, z = fw_up f29 (β 4) (.inl (y 0, 248, .inl (va_up (μ 4) (((31 * wv)) + kv) p2))) := ⟨_, rfl⟩
        have hw : fw_S D A s.heap f35 H locs := by rw [ef35]; exact hw
        have hR : Rm y (up2 (up2 μ 0 0 0) 4 (((31 * wv)) + kv) p2) β f35 := by rw [ef35]; exact hR.s4 (((31 * wv)) + kv) p2
        refine lv_iload hx hb dX9_setRank_82 (lv_at hl 0 rfl) ?_
        exact fw_iret hx hb hr hlocks hw (Nat.le_of_ble_eq_true rfl) (Nat.le_of_ble_eq_true rfl) dX9_setRank_84 (Or.inr (Or.inr (⟨wv, kv, hwv, hkv, rfl, rfl, by assumption, rfl, hR⟩)))

theorem iX9_setRates_9 : ∀ w ∈ wsX90, w ∈ wsX9_setRates := by decide +kernel
set_option maxHeartbeats 4000000 in
set_option maxRecDepth 100000 in
/-- the reference: setRates -/
theorem c_X9_setRates (l : Launch) (D : va_G) (A : Nat → Prop) (y : Nat → ClassId) (sa : Nat → Nat) (f : fw_F) (β : Nat → Nat) (μ : mS) (p0 p1 p2 p3 : Int32) (nw wk no nt : Nat) (hI : Im μ nw wk no nt) (hR : Rm y μ β f) : Met l yX9_setRates wsX9_setRates ({ frames := 2, cells := 0, slots := 0, locals := 42 } : Room) (cPc D A y sa f [.ref (β 0), .int p0, .int p1, .int p2, .int p3]) (cQi D A (fun r f1 => (¬ inr p0 0 2 ∧ r = 0 ∧ Rm y (up2 μ 0 0 1) β f1) ∨ (inr p0 0 2 ∧ ¬ (inr p1 0 30 ∧ inr p2 0 10000 ∧ inr p3 0 10000) ∧ r = 0 ∧ Rm y (up2 μ 0 0 2) β f1) ∨ (∃ rv kv, rv ≤ 2 ∧ kv ≤ 30 ∧ p0 = nI rv ∧ p1 = nI kv ∧ inr p2 0 10000 ∧ inr p3 0 10000 ∧ r = μ 5 (tld (μ 5) (31 * rv + kv)) ∧ Rm y (up2 (up2 (up2 μ 0 0 0) 5 (31 * rv + kv) p2) 6 (31 * rv + kv) p3) β f1))) 0 0 A := by
  refine fw_met (by decide) rfl [.ref (β 0), .int p0, .int p1, .int p2, .int p3] (Nat.le_of_ble_eq_true rfl) ?_
  intro p e s m args below meth c ls I hin hE hw hl
  obtain ⟨hx, hb, hr, hts, hown, hlocks, hml⟩ := I
  have hown : s.vm.findClass RX9 = some m.cls := hown
  have hl : lv_has ls 7 [(0, .ref (β 0)), (1, .int p0), (2, .int p1), (3, .int p2), (4, .int p3)] := hl
  obtain ⟨hI1, hI2, hI3, hI4, hI5, hI6, hI7, hI8, hI9, hI10, hI11, hI12, hI13⟩ := id hI
  refine lv_iload_n hx hb dX9_setRates_0 rfl (lv_at hl 2 rfl) ?_
  refine fw_callSi hx hb hml hown hts hE hw [.int p1] [] (c_X9_isWeek l D A y sa f p1) (va_cwS 1 hts gX9_setRates_X9_isWeek rfl rfl rfl (by decide +kernel) ⟨Nat.le_of_ble_eq_true rfl, Nat.le_of_ble_eq_true rfl⟩) rfl hl.1 rfl (Nat.le_of_ble_eq_true rfl) dX9_setRates_1 ⟨Nat.le_of_ble_eq_true rfl, Nat.le_of_ble_eq_true rfl⟩ (fun r1 f2 H locs hp3 hw => ?_)
  obtain ⟨hp3a, hp3b⟩ := hp3
  rw [hp3b] at hw
  rw [hp3a]
  refine lv_if_eq (tgt := 34) hx hb dX9_setRates_4 (by decide) (fun c_4 => ?_) (fun c_4 => ?_)
  · have c_4 := fw_b0 c_4
    refine lv_iconst (v := 0) hx hb dX9_setRates_34 (by decide) ?_
    refine lv_istore (lv' := [(5, .int 0), (0, .ref (β 0)), (1, .int p0), (2, .int p1), (3, .int p2), (4, .int p3)]) hx hb dX9_setRates_35 hl (by decide) rfl (fun ls hl => ?_)
    refine lv_aload_n hx hb dX9_setRates_37 rfl (lv_at hl 1 rfl) ?_
    refine lv_iload_n hx hb dX9_setRates_38 rfl (lv_at hl 2 rfl) ?_
    refine lv_iconst (v := 0) hx hb dX9_setRates_39 (by decide) ?_
    refine lv_iconst (v := 2) hx hb dX9_setRates_40 (by decide) ?_
    refine fw_callSi hx hb hml hown hts hE hw [.int p0, .int 0, .int 2] [.ref (β 0)] (c_X9_in l D A y sa f p0 0 2) (va_cwS 3 hts gX9_setRates_X9_in rfl rfl rfl (by decide +kernel) ⟨Nat.le_of_ble_eq_true rfl, Nat.le_of_ble_eq_true rfl⟩) rfl hl.1 rfl (Nat.le_of_ble_eq_true rfl) dX9_setRates_41 ⟨Nat.le_of_ble_eq_true rfl, Nat.le_of_ble_eq_true rfl⟩ (fun r5 f6 H locs hp7 hw => ?_)
    obtain ⟨hp7a, hp7b⟩ := hp7
    rw [hp7b] at hw
    rw [hp7a]
    refine lv_if_ne (tgt := 51) hx hb dX9_setRates_44 (by decide) (fun c_8 => ?_) (fun c_8 => ?_)
    · have c_8 := fw_b1 c_8
      refine lv_iload hx hb dX9_setRates_51 (lv_at hl 0 rfl) ?_
      refine lv_if_eq (tgt := 60) hx hb dX9_setRates_53 (by decide) (fun _ => ?_) (fun c_9 => absurd c_9 (by decide))
      refine lv_iconst (v := 2) hx hb dX9_setRates_60 (by decide) ?_
      refine fw_callVi hx hb hml hown hts hE hw [.int 2] [] (c_X9_holds l D A y sa f β μ 2 hR) (cwV 1 hts gX9_setRates_X9_holds rfl rfl rfl (by decide +kernel) ⟨Nat.le_of_ble_eq_true rfl, Nat.le_of_ble_eq_true rfl⟩) (ci := 9) rfl rfl hR.o rfl hl.1 rfl (Nat.le_of_ble_eq_true rfl) dX9_setRates_61 ⟨Nat.le_of_ble_eq_true rfl, Nat.le_of_ble_eq_true rfl⟩ (fun r10 f11 H locs hp12 hw => ?_)
      obtain ⟨hp12a, hR⟩ := hp12
      rw [if_neg (by decide)] at hp12a
      rw [hp12a]
      refine lv_if_ne (tgt := 69) hx hb dX9_setRates_64 (by decide) (fun c_13 => absurd c_13 (by decide)) (fun _ => ?_)
      refine lv_iconst (v := 0) hx hb dX9_setRates_67 (by decide) ?_
      exact fw_iret hx hb hr hlocks hw (Nat.le_of_ble_eq_true rfl) (Nat.le_of_ble_eq_true rfl) dX9_setRates_68 (Or.inr (Or.inl (⟨(by first | assumption | exact fun z => absurd z.1 (by assumption) | exact fun z => absurd z.2.1 (by assumption) | exact fun z => absurd z.2.2.1 (by assumption) | exact fun z => absurd z.2.2.2 (by assumption) | exact fun z => absurd z.2 (by assumption) | exact fun z => absurd z.2.2 (by assumption)), (by first | assumption | exact fun z => absurd z.1 (by assumption) | exact fun z => absurd z.2.1 (by assumption) | exact fun z => absurd z.2.2.1 (by assumption) | exact fun z => absurd z.2.2.2 (by assumption) | exact fun z => absurd z.2 (by assumption) | exact fun z => absurd z.2.2 (by assumption)), rfl, hR⟩)))
    · have c_8 := fw_b0 c_8
      refine lv_iconst (v := 1) hx hb dX9_setRates_47 (by decide) ?_
      refine lv_goto (tgt := 61) hx hb dX9_setRates_48 (by decide) ?_
      refine fw_callVi hx hb hml hown hts hE hw [.int 1] [] (c_X9_holds l D A y sa f β μ 1 hR) (cwV 1 hts gX9_setRates_X9_holds rfl rfl rfl (by decide +kernel) ⟨Nat.le_of_ble_eq_true rfl, Nat.le_of_ble_eq_true rfl⟩) (ci := 9) rfl rfl hR.o rfl hl.1 rfl (Nat.le_of_ble_eq_true rfl) dX9_setRates_61 ⟨Nat.le_of_ble_eq_true rfl, Nat.le_of_ble_eq_true rfl⟩ (fun r14 f15 H locs hp16 hw => ?_)
      obtain ⟨hp16a, hR⟩ := hp16
      rw [if_neg (by decide)] at hp16a
      rw [hp16a]
      refine lv_if_ne (tgt := 69) hx hb dX9_setRates_64 (by decide) (fun c_17 => absurd c_17 (by decide)) (fun _ => ?_)
      refine lv_iconst (v := 0) hx hb dX9_setRates_67 (by decide) ?_
      exact fw_iret hx hb hr hlocks hw (Nat.le_of_ble_eq_true rfl) (Nat.le_of_ble_eq_true rfl) dX9_setRates_68 (Or.inl (⟨(by first | assumption | exact fun z => absurd z.1 (by assumption) | exact fun z => absurd z.2.1 (by assumption) | exact fun z => absurd z.2.2.1 (by assumption) | exact fun z => absurd z.2.2.2 (by assumption) | exact fun z => absurd z.2 (by assumption) | exact fun z => absurd z.2.2 (by assumption)), rfl, hR⟩))
  · have c_4 := fw_b1 c_4
    refine lv_iload_n hx hb dX9_setRates_7 rfl (lv_at hl 3 rfl) ?_
    refine lv_iconst (v := 0) hx hb dX9_setRates_8 (by decide) ?_
    refine lv_sipush (v := 10000) hx hb dX9_setRates_9 (by decide) ?_
    refine fw_callSi hx hb hml hown hts hE hw [.int p2, .int 0, .int 10000] [] (c_X9_in l D A y sa f p2 0 10000) (va_cwS 3 hts gX9_setRates_X9_in rfl rfl rfl (by decide +kernel) ⟨Nat.le_of_ble_eq_true rfl, Nat.le_of_ble_eq_true rfl⟩) rfl hl.1 rfl (Nat.le_of_ble_eq_true rfl) dX9_setRates_12 ⟨Nat.le_of_ble_eq_true rfl, Nat.le_of_ble_eq_true rfl⟩ (fun r18 f19 H locs hp20 hw => ?_)
    obtain ⟨hp20a, hp20b⟩ := hp20
    rw [hp20b] at hw
    rw [hp20a]
    refine lv_if_eq (tgt := 34) hx hb dX9_setRates_15 (by decide) (fun c_21 => ?_) (fun c_21 => ?_)
    · have c_21 := fw_b0 c_21
      refine lv_iconst (v := 0) hx hb dX9_setRates_34 (by decide) ?_
      refine lv_istore (lv' := [(5, .int 0), (0, .ref (β 0)), (1, .int p0), (2, .int p1), (3, .int p2), (4, .int p3)]) hx hb dX9_setRates_35 hl (by decide) rfl (fun ls hl => ?_)
      refine lv_aload_n hx hb dX9_setRates_37 rfl (lv_at hl 1 rfl) ?_
      refine lv_iload_n hx hb dX9_setRates_38 rfl (lv_at hl 2 rfl) ?_
      refine lv_iconst (v := 0) hx hb dX9_setRates_39 (by decide) ?_
      refine lv_iconst (v := 2) hx hb dX9_setRates_40 (by decide) ?_
      refine fw_callSi hx hb hml hown hts hE hw [.int p0, .int 0, .int 2] [.ref (β 0)] (c_X9_in l D A y sa f p0 0 2) (va_cwS 3 hts gX9_setRates_X9_in rfl rfl rfl (by decide +kernel) ⟨Nat.le_of_ble_eq_true rfl, Nat.le_of_ble_eq_true rfl⟩) rfl hl.1 rfl (Nat.le_of_ble_eq_true rfl) dX9_setRates_41 ⟨Nat.le_of_ble_eq_true rfl, Nat.le_of_ble_eq_true rfl⟩ (fun r22 f23 H locs hp24 hw => ?_)
      obtain ⟨hp24a, hp24b⟩ := hp24
      rw [hp24b] at hw
      rw [hp24a]
      refine lv_if_ne (tgt := 51) hx hb dX9_setRates_44 (by decide) (fun c_25 => ?_) (fun c_25 => ?_)
      · have c_25 := fw_b1 c_25
        refine lv_iload hx hb dX9_setRates_51 (lv_at hl 0 rfl) ?_
        refine lv_if_eq (tgt := 60) hx hb dX9_setRates_53 (by decide) (fun _ => ?_) (fun c_26 => absurd c_26 (by decide))
        refine lv_iconst (v := 2) hx hb dX9_setRates_60 (by decide) ?_
        refine fw_callVi hx hb hml hown hts hE hw [.int 2] [] (c_X9_holds l D A y sa f β μ 2 hR) (cwV 1 hts gX9_setRates_X9_holds rfl rfl rfl (by decide +kernel) ⟨Nat.le_of_ble_eq_true rfl, Nat.le_of_ble_eq_true rfl⟩) (ci := 9) rfl rfl hR.o rfl hl.1 rfl (Nat.le_of_ble_eq_true rfl) dX9_setRates_61 ⟨Nat.le_of_ble_eq_true rfl, Nat.le_of_ble_eq_true rfl⟩ (fun r27 f28 H locs hp29 hw => ?_)
        obtain ⟨hp29a, hR⟩ := hp29
        rw [if_neg (by decide)] at hp29a
        rw [hp29a]
        refine lv_if_ne (tgt := 69) hx hb dX9_setRates_64 (by decide) (fun c_30 => absurd c_30 (by decide)) (fun _ => ?_)
        refine lv_iconst (v := 0) hx hb dX9_setRates_67 (by decide) ?_
        exact fw_iret hx hb hr hlocks hw (Nat.le_of_ble_eq_true rfl) (Nat.le_of_ble_eq_true rfl) dX9_setRates_68 (Or.inr (Or.inl (⟨(by first | assumption | exact fun z => absurd z.1 (by assumption) | exact fun z => absurd z.2.1 (by assumption) | exact fun z => absurd z.2.2.1 (by assumption) | exact fun z => absurd z.2.2.2 (by assumption) | exact fun z => absurd z.2 (by assumption) | exact fun z => absurd z.2.2 (by assumption)), (by first | assumption | exact fun z => absurd z.1 (by assumption) | exact fun z => absurd z.2.1 (by assumption) | exact fun z => absurd z.2.2.1 (by assumption) | exact fun z => absurd z.2.2.2 (by assumption) | exact fun z => absurd z.2 (by assumption) | exact fun z => absurd z.2.2 (by assumption)), rfl, hR⟩)))
      · have c_25 := fw_b0 c_25
        refine lv_iconst (v := 1) hx hb dX9_setRates_47 (by decide) ?_
        refine lv_goto (tgt := 61) hx hb dX9_setRates_48 (by decide) ?_
        refine fw_callVi hx hb hml hown hts hE hw [.int 1] [] (c_X9_holds l D A y sa f β μ 1 hR) (cwV 1 hts gX9_setRates_X9_holds rfl rfl rfl (by decide +kernel) ⟨Nat.le_of_ble_eq_true rfl, Nat.le_of_ble_eq_true rfl⟩) (ci := 9) rfl rfl hR.o rfl hl.1 rfl (Nat.le_of_ble_eq_true rfl) dX9_setRates_61 ⟨Nat.le_of_ble_eq_true rfl, Nat.le_of_ble_eq_true rfl⟩ (fun r31 f32 H locs hp33 hw => ?_)
        obtain ⟨hp33a, hR⟩ := hp33
        rw [if_neg (by decide)] at hp33a
        rw [hp33a]
        refine lv_if_ne (tgt := 69) hx hb dX9_setRates_64 (by decide) (fun c_34 => absurd c_34 (by decide)) (fun _ => ?_)
        refine lv_iconst (v := 0) hx hb dX9_setRates_67 (by decide) ?_
        exact fw_iret hx hb hr hlocks hw (Nat.le_of_ble_eq_true rfl) (Nat.le_of_ble_eq_true rfl) dX9_setRates_68 (Or.inl (⟨(by first | assumption | exact fun z => absurd z.1 (by assumption) | exact fun z => absurd z.2.1 (by assumption) | exact fun z => absurd z.2.2.1 (by assumption) | exact fun z => absurd z.2.2.2 (by assumption) | exact fun z => absurd z.2 (by assumption) | exact fun z => absurd z.2.2 (by assumption)), rfl, hR⟩))
    · have c_21 := fw_b1 c_21
      refine lv_iload hx hb dX9_setRates_18 (lv_at hl 4 rfl) ?_
      refine lv_iconst (v := 0) hx hb dX9_setRates_20 (by decide) ?_
      refine lv_sipush (v := 10000) hx hb dX9_setRates_21 (by decide) ?_
      refine fw_callSi hx hb hml hown hts hE hw [.int p3, .int 0, .int 10000] [] (c_X9_in l D A y sa f p3 0 10000) (va_cwS 3 hts gX9_setRates_X9_in rfl rfl rfl (by decide +kernel) ⟨Nat.le_of_ble_eq_true rfl, Nat.le_of_ble_eq_true rfl⟩) rfl hl.1 rfl (Nat.le_of_ble_eq_true rfl) dX9_setRates_24 ⟨Nat.le_of_ble_eq_true rfl, Nat.le_of_ble_eq_true rfl⟩ (fun r35 f36 H locs hp37 hw => ?_)
      obtain ⟨hp37a, hp37b⟩ := hp37
      rw [hp37b] at hw
      rw [hp37a]
      refine lv_if_eq (tgt := 34) hx hb dX9_setRates_27 (by decide) (fun c_38 => ?_) (fun c_38 => ?_)
      · have c_38 := fw_b0 c_38
        refine lv_iconst (v := 0) hx hb dX9_setRates_34 (by decide) ?_
        refine lv_istore (lv' := [(5, .int 0), (0, .ref (β 0)), (1, .int p0), (2, .int p1), (3, .int p2), (4, .int p3)]) hx hb dX9_setRates_35 hl (by decide) rfl (fun ls hl => ?_)
        refine lv_aload_n hx hb dX9_setRates_37 rfl (lv_at hl 1 rfl) ?_
        refine lv_iload_n hx hb dX9_setRates_38 rfl (lv_at hl 2 rfl) ?_
        refine lv_iconst (v := 0) hx hb dX9_setRates_39 (by decide) ?_
        refine lv_iconst (v := 2) hx hb dX9_setRates_40 (by decide) ?_
        refine fw_callSi hx hb hml hown hts hE hw [.int p0, .int 0, .int 2] [.ref (β 0)] (c_X9_in l D A y sa f p0 0 2) (va_cwS 3 hts gX9_setRates_X9_in rfl rfl rfl (by decide +kernel) ⟨Nat.le_of_ble_eq_true rfl, Nat.le_of_ble_eq_true rfl⟩) rfl hl.1 rfl (Nat.le_of_ble_eq_true rfl) dX9_setRates_41 ⟨Nat.le_of_ble_eq_true rfl, Nat.le_of_ble_eq_true rfl⟩ (fun r39 f40 H locs hp41 hw => ?_)
        obtain ⟨hp41a, hp41b⟩ := hp41
        rw [hp41b] at hw
        rw [hp41a]
        refine lv_if_ne (tgt := 51) hx hb dX9_setRates_44 (by decide) (fun c_42 => ?_) (fun c_42 => ?_)
        · have c_42 := fw_b1 c_42
          refine lv_iload hx hb dX9_setRates_51 (lv_at hl 0 rfl) ?_
          refine lv_if_eq (tgt := 60) hx hb dX9_setRates_53 (by decide) (fun _ => ?_) (fun c_43 => absurd c_43 (by decide))
          refine lv_iconst (v := 2) hx hb dX9_setRates_60 (by decide) ?_
          refine fw_callVi hx hb hml hown hts hE hw [.int 2] [] (c_X9_holds l D A y sa f β μ 2 hR) (cwV 1 hts gX9_setRates_X9_holds rfl rfl rfl (by decide +kernel) ⟨Nat.le_of_ble_eq_true rfl, Nat.le_of_ble_eq_true rfl⟩) (ci := 9) rfl rfl hR.o rfl hl.1 rfl (Nat.le_of_ble_eq_true rfl) dX9_setRates_61 ⟨Nat.le_of_ble_eq_true rfl, Nat.le_of_ble_eq_true rfl⟩ (fun r44 f45 H locs hp46 hw => ?_)
          obtain ⟨hp46a, hR⟩ := hp46
          rw [if_neg (by decide)] at hp46a
          rw [hp46a]
          refine lv_if_ne (tgt := 69) hx hb dX9_setRates_64 (by decide) (fun c_47 => absurd c_47 (by decide)) (fun _ => ?_)
          refine lv_iconst (v := 0) hx hb dX9_setRates_67 (by decide) ?_
          exact fw_iret hx hb hr hlocks hw (Nat.le_of_ble_eq_true rfl) (Nat.le_of_ble_eq_true rfl) dX9_setRates_68 (Or.inr (Or.inl (⟨(by first | assumption | exact fun z => absurd z.1 (by assumption) | exact fun z => absurd z.2.1 (by assumption) | exact fun z => absurd z.2.2.1 (by assumption) | exact fun z => absurd z.2.2.2 (by assumption) | exact fun z => absurd z.2 (by assumption) | exact fun z => absurd z.2.2 (by assumption)), (by first | assumption | exact fun z => absurd z.1 (by assumption) | exact fun z => absurd z.2.1 (by assumption) | exact fun z => absurd z.2.2.1 (by assumption) | exact fun z => absurd z.2.2.2 (by assumption) | exact fun z => absurd z.2 (by assumption) | exact fun z => absurd z.2.2 (by assumption)), rfl, hR⟩)))
        · have c_42 := fw_b0 c_42
          refine lv_iconst (v := 1) hx hb dX9_setRates_47 (by decide) ?_
          refine lv_goto (tgt := 61) hx hb dX9_setRates_48 (by decide) ?_
          refine fw_callVi hx hb hml hown hts hE hw [.int 1] [] (c_X9_holds l D A y sa f β μ 1 hR) (cwV 1 hts gX9_setRates_X9_holds rfl rfl rfl (by decide +kernel) ⟨Nat.le_of_ble_eq_true rfl, Nat.le_of_ble_eq_true rfl⟩) (ci := 9) rfl rfl hR.o rfl hl.1 rfl (Nat.le_of_ble_eq_true rfl) dX9_setRates_61 ⟨Nat.le_of_ble_eq_true rfl, Nat.le_of_ble_eq_true rfl⟩ (fun r48 f49 H locs hp50 hw => ?_)
          obtain ⟨hp50a, hR⟩ := hp50
          rw [if_neg (by decide)] at hp50a
          rw [hp50a]
          refine lv_if_ne (tgt := 69) hx hb dX9_setRates_64 (by decide) (fun c_51 => absurd c_51 (by decide)) (fun _ => ?_)
          refine lv_iconst (v := 0) hx hb dX9_setRates_67 (by decide) ?_
          exact fw_iret hx hb hr hlocks hw (Nat.le_of_ble_eq_true rfl) (Nat.le_of_ble_eq_true rfl) dX9_setRates_68 (Or.inl (⟨(by first | assumption | exact fun z => absurd z.1 (by assumption) | exact fun z => absurd z.2.1 (by assumption) | exact fun z => absurd z.2.2.1 (by assumption) | exact fun z => absurd z.2.2.2 (by assumption) | exact fun z => absurd z.2 (by assumption) | exact fun z => absurd z.2.2 (by assumption)), rfl, hR⟩))
      · have c_38 := fw_b1 c_38
        refine lv_iconst (v := 1) hx hb dX9_setRates_30 (by decide) ?_
        refine lv_goto (tgt := 35) hx hb dX9_setRates_31 (by decide) ?_
        refine lv_istore (lv' := [(5, .int 1), (0, .ref (β 0)), (1, .int p0), (2, .int p1), (3, .int p2), (4, .int p3)]) hx hb dX9_setRates_35 hl (by decide) rfl (fun ls hl => ?_)
        refine lv_aload_n hx hb dX9_setRates_37 rfl (lv_at hl 1 rfl) ?_
        refine lv_iload_n hx hb dX9_setRates_38 rfl (lv_at hl 2 rfl) ?_
        refine lv_iconst (v := 0) hx hb dX9_setRates_39 (by decide) ?_
        refine lv_iconst (v := 2) hx hb dX9_setRates_40 (by decide) ?_
        refine fw_callSi hx hb hml hown hts hE hw [.int p0, .int 0, .int 2] [.ref (β 0)] (c_X9_in l D A y sa f p0 0 2) (va_cwS 3 hts gX9_setRates_X9_in rfl rfl rfl (by decide +kernel) ⟨Nat.le_of_ble_eq_true rfl, Nat.le_of_ble_eq_true rfl⟩) rfl hl.1 rfl (Nat.le_of_ble_eq_true rfl) dX9_setRates_41 ⟨Nat.le_of_ble_eq_true rfl, Nat.le_of_ble_eq_true rfl⟩ (fun r52 f53 H locs hp54 hw => ?_)
        obtain ⟨hp54a, hp54b⟩ := hp54
        rw [hp54b] at hw
        rw [hp54a]
        refine lv_if_ne (tgt := 51) hx hb dX9_setRates_44 (by decide) (fun c_55 => ?_) (fun c_55 => ?_)
        · have c_55 := fw_b1 c_55
          refine lv_iload hx hb dX9_setRates_51 (lv_at hl 0 rfl) ?_
          refine lv_if_eq (tgt := 60) hx hb dX9_setRates_53 (by decide) (fun c_56 => absurd c_56 (by decide)) (fun _ => ?_)
          refine lv_iconst (v := 0) hx hb dX9_setRates_56 (by decide) ?_
          refine lv_goto (tgt := 61) hx hb dX9_setRates_57 (by decide) ?_
          refine fw_callVi hx hb hml hown hts hE hw [.int 0] [] (c_X9_holds l D A y sa f β μ 0 hR) (cwV 1 hts gX9_setRates_X9_holds rfl rfl rfl (by decide +kernel) ⟨Nat.le_of_ble_eq_true rfl, Nat.le_of_ble_eq_true rfl⟩) (ci := 9) rfl rfl hR.o rfl hl.1 rfl (Nat.le_of_ble_eq_true rfl) dX9_setRates_61 ⟨Nat.le_of_ble_eq_true rfl, Nat.le_of_ble_eq_true rfl⟩ (fun r57 f58 H locs hp59 hw => ?_)
          obtain ⟨hp59a, hR⟩ := hp59
          rw [if_pos rfl] at hp59a
          rw [hp59a]
          refine lv_if_ne (tgt := 69) hx hb dX9_setRates_64 (by decide) (fun _ => ?_) (fun c_60 => absurd c_60 (by decide))
          obtain ⟨rv, hrv, rfl⟩ := inr_of (n := 2) (by decide) c_55
          obtain ⟨kv, hkv, rfl⟩ := inr_of (n := 30) (by decide) c_4
          refine lv_aload_n hx hb dX9_setRates_69 rfl (lv_at hl 1 rfl) ?_
          refine fw_get hx hb hts hown hE.1.1 hw (ci := 9) (fs := [.int 0, .int (μ 1 0), .int (μ 2 0), .ref (β 3), .ref (β 4), .ref (β 5), .ref (β 6), .ref (β 7), .ref (β 8), .ref (β 9), .ref (β 10), .ref (β 11), .ref (β 12), .int (μ 13 0), .ref (β 14), .ref (β 15), .ref (β 16), .ref (β 17), .int (μ 18 0), .ref (β 19), .ref (β 20), .int (μ 21 0), .ref (β 22), .ref (β 23), .ref (β 24)]) (v := .ref (β 5)) hR.o iX9_setRates_9 rfl 5 (by decide) rfl (by decide +kernel) dX9_setRates_70 ?_
          refine lv_aload_n hx hb dX9_setRates_73 rfl (lv_at hl 1 rfl) ?_
          refine fw_get hx hb hts hown hE.1.1 hw (ci := 9) (fs := [.int 0, .int (μ 1 0), .int (μ 2 0), .ref (β 3), .ref (β 4), .ref (β 5), .ref (β 6), .ref (β 7), .ref (β 8), .ref (β 9), .ref (β 10), .ref (β 11), .ref (β 12), .int (μ 13 0), .ref (β 14), .ref (β 15), .ref (β 16), .ref (β 17), .int (μ 18 0), .ref (β 19), .ref (β 20), .int (μ 21 0), .ref (β 22), .ref (β 23), .ref (β 24)]) (v := .ref (β 5)) hR.o iX9_setRates_9 rfl 5 (by decide) rfl (by decide +kernel) dX9_setRates_74 ?_
          refine lv_iload_n hx hb dX9_setRates_77 rfl (lv_at hl 2 rfl) ?_
          refine lv_iload_n hx hb dX9_setRates_78 rfl (lv_at hl 3 rfl) ?_
          refine fw_callSi hx hb hml hown hts hE hw [.ref (β 5), .int (nI rv), .int (nI kv)] [.ref (β 5)] (c_X9_told l D A y sa f58 (β 5) 93 rv kv (μ 5) hR.a5 (by omega) (by omega) (hI11 rv (by omega))) (va_cwS 3 hts gX9_setRates_X9_told rfl rfl rfl (by decide +kernel) ⟨Nat.le_of_ble_eq_true rfl, Nat.le_of_ble_eq_true rfl⟩) rfl hl.1 rfl (Nat.le_of_ble_eq_true rfl) dX9_setRates_79 ⟨Nat.le_of_ble_eq_true rfl, Nat.le_of_ble_eq_true rfl⟩ (fun r61 f62 H locs hp63 hw => ?_)
          obtain ⟨hp63a, hp63b⟩ := hp63
          rw [hp63b] at hw
          rw [hp63a]
          have ht5 := tld_le (μ 5) (31 * rv + kv)
          refine fw_iald hx hb hE.1.1 hw (g := (μ 5)) hR.a5 0 rfl (vp_in_nI (by omega) (by decide)) dX9_setRates_82 ?_
          rw [nI_clamp (n := (tld (μ 5) (31 * rv + kv))) (by omega)]
          refine lv_istore (lv' := [(6, .int ((μ 5) (tld (μ 5) (31 * rv + kv)))), (5, .int 1), (0, .ref (β 0)), (1, .int (nI rv)), (2, .int (nI kv)), (3, .int p2), (4, .int p3)]) hx hb dX9_setRates_83 hl (by decide) rfl (fun ls hl => ?_)
          refine lv_aload_n hx hb dX9_setRates_85 rfl (lv_at hl 2 rfl) ?_
          refine fw_get hx hb hts hown hE.1.1 hw (ci := 9) (fs := [.int 0, .int (μ 1 0), .int (μ 2 0), .ref (β 3), .ref (β 4), .ref (β 5), .ref (β 6), .ref (β 7), .ref (β 8), .ref (β 9), .ref (β 10), .ref (β 11), .ref (β 12), .int (μ 13 0), .ref (β 14), .ref (β 15), .ref (β 16), .ref (β 17), .int (μ 18 0), .ref (β 19), .ref (β 20), .int (μ 21 0), .ref (β 22), .ref (β 23), .ref (β 24)]) (v := .ref (β 5)) hR.o iX9_setRates_9 rfl 5 (by decide) rfl (by decide +kernel) dX9_setRates_86 ?_
          refine lv_bipush (v := 31) hx hb dX9_setRates_89 (by decide) ?_
          refine lv_iload_n hx hb dX9_setRates_91 rfl (lv_at hl 3 rfl) ?_
          refine lv_imul hx hb dX9_setRates_92 ?_
          rw [show ((31 * (nI rv)) : Int32) = (nI (31 * rv)) from nI_mul (31) (rv)]
          refine lv_iload_n hx hb dX9_setRates_93 rfl (lv_at hl 4 rfl) ?_
          refine lv_iadd hx hb dX9_setRates_94 ?_
          rw [show (((nI (31 * rv)) + (nI kv)) : Int32) = (nI (((31 * rv)) + kv)) from nI_add ((31 * rv)) (kv)]
          refine lv_iload_n hx hb dX9_setRates_95 rfl (lv_at hl 5 rfl) ?_
          refine fw_iast hx hb hE.1.1 hw (g := (μ 5)) hR.a5 0 rfl (vp_in_nI (by omega) (by decide)) dX9_setRates_96 (fun H locs hw => ?_)
          rw [nI_clamp (n := (((31 * rv)) + kv)) (by omega)] at hw
          obtain ⟨f64, ef64⟩ : ∃ z, z = fw_up f58 (β 5) (.inl (y 0, 93, .inl (va_up (μ 5) (((31 * rv)) + kv) p2))) := ⟨_, rfl⟩
          have hw : fw_S D A s.heap f64 H locs := by rw [ef64]; exact hw
          have hR : Rm y (up2 (up2 μ 0 0 0) 5 (((31 * rv)) + kv) p2) β f64 := by rw [ef64]; exact hR.s5 (((31 * rv)) + kv) p2
          refine lv_aload_n hx hb dX9_setRates_97 rfl (lv_at hl 2 rfl) ?_
          refine fw_get hx hb hts hown hE.1.1 hw (ci := 9) (fs := [.int 0, .int (μ 1 0), .int (μ 2 0), .ref (β 3), .ref (β 4), .ref (β 5), .ref (β 6), .ref (β 7), .ref (β 8), .ref (β 9), .ref (β 10), .ref (β 11), .ref (β 12), .int (μ 13 0), .ref (β 14), .ref (β 15), .ref (β 16), .ref (β 17), .int (μ 18 0), .ref (β 19), .ref (β 20), .int (μ 21 0), .ref (β 22), .ref (β 23), .ref (β 24)]) (v := .ref (β 6)) hR.o iX9_setRates_9 rfl 6 (by decide) rfl (by decide +kernel) dX9_setRates_98 ?_
          refine lv_bipush (v := 31) hx hb dX9_setRates_101 (by decide) ?_
          refine lv_iload_n hx hb dX9_setRates_103 rfl (lv_at hl 3 rfl) ?_
          refine lv_imul hx hb dX9_setRates_104 ?_
          rw [show ((31 * (nI rv)) : Int32) = (nI (31 * rv)) from nI_mul (31) (rv)]
          refine lv_iload_n hx hb dX9_setRates_105 rfl (lv_at hl 4 rfl) ?_
          refine lv_iadd hx hb dX9_setRates_106 ?_
          rw [show (((nI (31 * rv)) + (nI kv)) : Int32) = (nI (((31 * rv)) + kv)) from nI_add ((31 * rv)) (kv)]
          refine lv_iload hx hb dX9_setRates_107 (lv_at hl 6 rfl) ?_
          refine fw_iast hx hb hE.1.1 hw (g := (μ 6)) hR.a6 0 rfl (vp_in_nI (by omega) (by decide)) dX9_setRates_109 (fun H locs hw => ?_)
          rw [nI_clamp (n := (((31 * rv)) + kv)) (by omega)] at hw
          obtain ⟨f65, ef65⟩ : ∃ z, z = fw_up f64 (β 6) (.inl (y 0, 93, .inl (va_up (μ 6) (((31 * rv)) + kv) p3))) := ⟨_, rfl⟩
          have hw : fw_S D A s.heap f65 H locs := by rw [ef65]; exact hw
          have hR : Rm y (up2 (up2 (up2 μ 0 0 0) 5 (((31 * rv)) + kv) p2) 6 (((31 * rv)) + kv) p3) β f65 := by rw [ef65]; exact hR.s6 (((31 * rv)) + kv) p3
          refine lv_iload hx hb dX9_setRates_110 (lv_at hl 0 rfl) ?_
          exact fw_iret hx hb hr hlocks hw (Nat.le_of_ble_eq_true rfl) (Nat.le_of_ble_eq_true rfl) dX9_setRates_112 (Or.inr (Or.inr (⟨rv, kv, hrv, hkv, rfl, rfl, by assumption, by assumption, rfl, hR⟩)))
        · have c_55 := fw_b0 c_55
          refine lv_iconst (v := 1) hx hb dX9_setRates_47 (by decide) ?_
          refine lv_goto (tgt := 61) hx hb dX9_setRates_48 (by decide) ?_
          refine fw_callVi hx hb hml hown hts hE hw [.int 1] [] (c_X9_holds l D A y sa f β μ 1 hR) (cwV 1 hts gX9_setRates_X9_holds rfl rfl rfl (by decide +kernel) ⟨Nat.le_of_ble_eq_true rfl, Nat.le_of_ble_eq_true rfl⟩) (ci := 9) rfl rfl hR.o rfl hl.1 rfl (Nat.le_of_ble_eq_true rfl) dX9_setRates_61 ⟨Nat.le_of_ble_eq_true rfl, Nat.le_of_ble_eq_true rfl⟩ (fun r66 f67 H locs hp68 hw => ?_)
          obtain ⟨hp68a, hR⟩ := hp68
          rw [if_neg (by decide)] at hp68a
          rw [hp68a]
          refine lv_if_ne (tgt := 69) hx hb dX9_setRates_64 (by decide) (fun c_69 => absurd c_69 (by decide)) (fun _ => ?_)
          refine lv_iconst (v := 0) hx hb dX9_setRates_67 (by decide) ?_
          exact fw_iret hx hb hr hlocks hw (Nat.le_of_ble_eq_true rfl) (Nat.le_of_ble_eq_true rfl) dX9_setRates_68 (Or.inl (⟨(by first | assumption | exact fun z => absurd z.1 (by assumption) | exact fun z => absurd z.2.1 (by assumption) | exact fun z => absurd z.2.2.1 (by assumption) | exact fun z => absurd z.2.2.2 (by assumption) | exact fun z => absurd z.2 (by assumption) | exact fun z => absurd z.2.2 (by assumption)), rfl, hR⟩))

theorem iX9_come_9 : ∀ w ∈ wsX90, w ∈ wsX9_come := by decide +kernel
set_option maxHeartbeats 4000000 in
set_option maxRecDepth 100000 in
/-- the reference: come -/
theorem c_X9_come (l : Launch) (D : va_G) (A : Nat → Prop) (y : Nat → ClassId) (sa : Nat → Nat) (f : fw_F) (β : Nat → Nat) (μ : mS) (p0 p1 p2 p3 p4 : Int32) (nw wk no nt : Nat) (hI : Im μ nw wk no nt) (hR : Rm y μ β f) : Met l yX9_come wsX9_come ({ frames := 2, cells := 0, slots := 0, locals := 43 } : Room) (cPc D A y sa f [.ref (β 0), .int p0, .int p1, .int p2, .int p3, .int p4]) (cQi D A (fun r f1 => (¬ inr p0 0 (nI nw - 1) ∧ r = 0 ∧ Rm y (up2 μ 0 0 1) β f1) ∨ (inr p0 0 (nI nw - 1) ∧ ¬ (inr p1 0 19 ∧ inr p2 0 30 ∧ inr p3 0 100 ∧ inr p4 0 100) ∧ r = 0 ∧ Rm y (up2 μ 0 0 2) β f1) ∨ (∃ wv sv, wv < nw ∧ sv ≤ 19 ∧ p0 = nI wv ∧ p1 = nI sv ∧ inr p2 0 30 ∧ inr p3 0 100 ∧ inr p4 0 100 ∧ ((μ 7 (20 * wv + sv) = -1 ∧ r = nI (cnM (up2 (up2 (up2 (up2 μ 0 0 0) 7 (20 * wv + sv) p2) 8 (20 * wv + sv) p3) 9 (20 * wv + sv) p4) wv) ∧ Rm y (up2 (up2 (up2 (up2 μ 0 0 0) 7 (20 * wv + sv) p2) 8 (20 * wv + sv) p3) 9 (20 * wv + sv) p4) β f1) ∨ (¬ μ 7 (20 * wv + sv) = -1 ∧ r = nI (cnM (up2 μ 0 0 0) wv) ∧ Rm y (up2 μ 0 0 0) β f1))))) 0 0 A := by
  refine fw_met (by decide) rfl [.ref (β 0), .int p0, .int p1, .int p2, .int p3, .int p4] (Nat.le_of_ble_eq_true rfl) ?_
  intro p e s m args below meth c ls I hin hE hw hl
  obtain ⟨hx, hb, hr, hts, hown, hlocks, hml⟩ := I
  have hown : s.vm.findClass RX9 = some m.cls := hown
  have hl : lv_has ls 8 [(0, .ref (β 0)), (1, .int p0), (2, .int p1), (3, .int p2), (4, .int p3), (5, .int p4)] := hl
  obtain ⟨hI1, hI2, hI3, hI4, hI5, hI6, hI7, hI8, hI9, hI10, hI11, hI12, hI13⟩ := id hI
  refine lv_iload_n hx hb dX9_come_0 rfl (lv_at hl 2 rfl) ?_
  refine lv_iconst (v := 0) hx hb dX9_come_1 (by decide) ?_
  refine lv_bipush (v := 19) hx hb dX9_come_2 (by decide) ?_
  refine fw_callSi hx hb hml hown hts hE hw [.int p1, .int 0, .int 19] [] (c_X9_in l D A y sa f p1 0 19) (va_cwS 3 hts gX9_come_X9_in rfl rfl rfl (by decide +kernel) ⟨Nat.le_of_ble_eq_true rfl, Nat.le_of_ble_eq_true rfl⟩) rfl hl.1 rfl (Nat.le_of_ble_eq_true rfl) dX9_come_4 ⟨Nat.le_of_ble_eq_true rfl, Nat.le_of_ble_eq_true rfl⟩ (fun r1 f2 H locs hp3 hw => ?_)
  obtain ⟨hp3a, hp3b⟩ := hp3
  rw [hp3b] at hw
  rw [hp3a]
  refine lv_if_eq (tgt := 31) hx hb dX9_come_7 (by decide) (fun c_4 => ?_) (fun c_4 => ?_)
  · have c_4 := fw_b0 c_4
    refine lv_iconst (v := 0) hx hb dX9_come_31 (by decide) ?_
    refine lv_istore (lv' := [(6, .int 0), (0, .ref (β 0)), (1, .int p0), (2, .int p1), (3, .int p2), (4, .int p3), (5, .int p4)]) hx hb dX9_come_32 hl (by decide) rfl (fun ls hl => ?_)
    refine lv_aload_n hx hb dX9_come_34 rfl (lv_at hl 1 rfl) ?_
    refine lv_aload_n hx hb dX9_come_35 rfl (lv_at hl 1 rfl) ?_
    refine lv_iload_n hx hb dX9_come_36 rfl (lv_at hl 2 rfl) ?_
    refine fw_callVi hx hb hml hown hts hE hw [.int p0] [.ref (β 0)] (c_X9_isWorker l D A y sa f β μ p0 hR) (cwV 1 hts gX9_come_X9_isWorker rfl rfl rfl (by decide +kernel) ⟨Nat.le_of_ble_eq_true rfl, Nat.le_of_ble_eq_true rfl⟩) (ci := 9) rfl rfl hR.o rfl hl.1 rfl (Nat.le_of_ble_eq_true rfl) dX9_come_37 ⟨Nat.le_of_ble_eq_true rfl, Nat.le_of_ble_eq_true rfl⟩ (fun r5 f6 H locs hp7 hw => ?_)
    obtain ⟨hp7a, hp7b⟩ := hp7
    rw [hp7b] at hw
    have hp7c : r5 = (if inr p0 0 (nI nw - 1) then 1 else 0) := hp7a.trans (by rw [show μ 2 0 = nI nw from hI1])
    rw [hp7c]
    refine lv_if_ne (tgt := 47) hx hb dX9_come_40 (by decide) (fun c_8 => ?_) (fun c_8 => ?_)
    · have c_8 := fw_b1 c_8
      refine lv_iload hx hb dX9_come_47 (lv_at hl 0 rfl) ?_
      refine lv_if_eq (tgt := 56) hx hb dX9_come_49 (by decide) (fun _ => ?_) (fun c_9 => absurd c_9 (by decide))
      refine lv_iconst (v := 2) hx hb dX9_come_56 (by decide) ?_
      refine fw_callVi hx hb hml hown hts hE hw [.int 2] [] (c_X9_holds l D A y sa f β μ 2 hR) (cwV 1 hts gX9_come_X9_holds rfl rfl rfl (by decide +kernel) ⟨Nat.le_of_ble_eq_true rfl, Nat.le_of_ble_eq_true rfl⟩) (ci := 9) rfl rfl hR.o rfl hl.1 rfl (Nat.le_of_ble_eq_true rfl) dX9_come_57 ⟨Nat.le_of_ble_eq_true rfl, Nat.le_of_ble_eq_true rfl⟩ (fun r10 f11 H locs hp12 hw => ?_)
      obtain ⟨hp12a, hR⟩ := hp12
      rw [if_neg (by decide)] at hp12a
      rw [hp12a]
      refine lv_if_ne (tgt := 65) hx hb dX9_come_60 (by decide) (fun c_13 => absurd c_13 (by decide)) (fun _ => ?_)
      refine lv_iconst (v := 0) hx hb dX9_come_63 (by decide) ?_
      exact fw_iret hx hb hr hlocks hw (Nat.le_of_ble_eq_true rfl) (Nat.le_of_ble_eq_true rfl) dX9_come_64 (Or.inr (Or.inl (⟨(by first | assumption | exact fun z => absurd z.1 (by assumption) | exact fun z => absurd z.2.1 (by assumption) | exact fun z => absurd z.2.2.1 (by assumption) | exact fun z => absurd z.2.2.2 (by assumption) | exact fun z => absurd z.2 (by assumption) | exact fun z => absurd z.2.2 (by assumption)), (by first | assumption | exact fun z => absurd z.1 (by assumption) | exact fun z => absurd z.2.1 (by assumption) | exact fun z => absurd z.2.2.1 (by assumption) | exact fun z => absurd z.2.2.2 (by assumption) | exact fun z => absurd z.2 (by assumption) | exact fun z => absurd z.2.2 (by assumption)), rfl, hR⟩)))
    · have c_8 := fw_b0 c_8
      refine lv_iconst (v := 1) hx hb dX9_come_43 (by decide) ?_
      refine lv_goto (tgt := 57) hx hb dX9_come_44 (by decide) ?_
      refine fw_callVi hx hb hml hown hts hE hw [.int 1] [] (c_X9_holds l D A y sa f β μ 1 hR) (cwV 1 hts gX9_come_X9_holds rfl rfl rfl (by decide +kernel) ⟨Nat.le_of_ble_eq_true rfl, Nat.le_of_ble_eq_true rfl⟩) (ci := 9) rfl rfl hR.o rfl hl.1 rfl (Nat.le_of_ble_eq_true rfl) dX9_come_57 ⟨Nat.le_of_ble_eq_true rfl, Nat.le_of_ble_eq_true rfl⟩ (fun r14 f15 H locs hp16 hw => ?_)
      obtain ⟨hp16a, hR⟩ := hp16
      rw [if_neg (by decide)] at hp16a
      rw [hp16a]
      refine lv_if_ne (tgt := 65) hx hb dX9_come_60 (by decide) (fun c_17 => absurd c_17 (by decide)) (fun _ => ?_)
      refine lv_iconst (v := 0) hx hb dX9_come_63 (by decide) ?_
      exact fw_iret hx hb hr hlocks hw (Nat.le_of_ble_eq_true rfl) (Nat.le_of_ble_eq_true rfl) dX9_come_64 (Or.inl (⟨(by first | assumption | exact fun z => absurd z.1 (by assumption) | exact fun z => absurd z.2.1 (by assumption) | exact fun z => absurd z.2.2.1 (by assumption) | exact fun z => absurd z.2.2.2 (by assumption) | exact fun z => absurd z.2 (by assumption) | exact fun z => absurd z.2.2 (by assumption)), rfl, hR⟩))
  · have c_4 := fw_b1 c_4
    refine lv_iload_n hx hb dX9_come_10 rfl (lv_at hl 3 rfl) ?_
    refine fw_callSi hx hb hml hown hts hE hw [.int p2] [] (c_X9_isWeek l D A y sa f p2) (va_cwS 1 hts gX9_come_X9_isWeek rfl rfl rfl (by decide +kernel) ⟨Nat.le_of_ble_eq_true rfl, Nat.le_of_ble_eq_true rfl⟩) rfl hl.1 rfl (Nat.le_of_ble_eq_true rfl) dX9_come_11 ⟨Nat.le_of_ble_eq_true rfl, Nat.le_of_ble_eq_true rfl⟩ (fun r18 f19 H locs hp20 hw => ?_)
    obtain ⟨hp20a, hp20b⟩ := hp20
    rw [hp20b] at hw
    rw [hp20a]
    refine lv_if_eq (tgt := 31) hx hb dX9_come_14 (by decide) (fun c_21 => ?_) (fun c_21 => ?_)
    · have c_21 := fw_b0 c_21
      refine lv_iconst (v := 0) hx hb dX9_come_31 (by decide) ?_
      refine lv_istore (lv' := [(6, .int 0), (0, .ref (β 0)), (1, .int p0), (2, .int p1), (3, .int p2), (4, .int p3), (5, .int p4)]) hx hb dX9_come_32 hl (by decide) rfl (fun ls hl => ?_)
      refine lv_aload_n hx hb dX9_come_34 rfl (lv_at hl 1 rfl) ?_
      refine lv_aload_n hx hb dX9_come_35 rfl (lv_at hl 1 rfl) ?_
      refine lv_iload_n hx hb dX9_come_36 rfl (lv_at hl 2 rfl) ?_
      refine fw_callVi hx hb hml hown hts hE hw [.int p0] [.ref (β 0)] (c_X9_isWorker l D A y sa f β μ p0 hR) (cwV 1 hts gX9_come_X9_isWorker rfl rfl rfl (by decide +kernel) ⟨Nat.le_of_ble_eq_true rfl, Nat.le_of_ble_eq_true rfl⟩) (ci := 9) rfl rfl hR.o rfl hl.1 rfl (Nat.le_of_ble_eq_true rfl) dX9_come_37 ⟨Nat.le_of_ble_eq_true rfl, Nat.le_of_ble_eq_true rfl⟩ (fun r22 f23 H locs hp24 hw => ?_)
      obtain ⟨hp24a, hp24b⟩ := hp24
      rw [hp24b] at hw
      have hp24c : r22 = (if inr p0 0 (nI nw - 1) then 1 else 0) := hp24a.trans (by rw [show μ 2 0 = nI nw from hI1])
      rw [hp24c]
      refine lv_if_ne (tgt := 47) hx hb dX9_come_40 (by decide) (fun c_25 => ?_) (fun c_25 => ?_)
      · have c_25 := fw_b1 c_25
        refine lv_iload hx hb dX9_come_47 (lv_at hl 0 rfl) ?_
        refine lv_if_eq (tgt := 56) hx hb dX9_come_49 (by decide) (fun _ => ?_) (fun c_26 => absurd c_26 (by decide))
        refine lv_iconst (v := 2) hx hb dX9_come_56 (by decide) ?_
        refine fw_callVi hx hb hml hown hts hE hw [.int 2] [] (c_X9_holds l D A y sa f β μ 2 hR) (cwV 1 hts gX9_come_X9_holds rfl rfl rfl (by decide +kernel) ⟨Nat.le_of_ble_eq_true rfl, Nat.le_of_ble_eq_true rfl⟩) (ci := 9) rfl rfl hR.o rfl hl.1 rfl (Nat.le_of_ble_eq_true rfl) dX9_come_57 ⟨Nat.le_of_ble_eq_true rfl, Nat.le_of_ble_eq_true rfl⟩ (fun r27 f28 H locs hp29 hw => ?_)
        obtain ⟨hp29a, hR⟩ := hp29
        rw [if_neg (by decide)] at hp29a
        rw [hp29a]
        refine lv_if_ne (tgt := 65) hx hb dX9_come_60 (by decide) (fun c_30 => absurd c_30 (by decide)) (fun _ => ?_)
        refine lv_iconst (v := 0) hx hb dX9_come_63 (by decide) ?_
        exact fw_iret hx hb hr hlocks hw (Nat.le_of_ble_eq_true rfl) (Nat.le_of_ble_eq_true rfl) dX9_come_64 (Or.inr (Or.inl (⟨(by first | assumption | exact fun z => absurd z.1 (by assumption) | exact fun z => absurd z.2.1 (by assumption) | exact fun z => absurd z.2.2.1 (by assumption) | exact fun z => absurd z.2.2.2 (by assumption) | exact fun z => absurd z.2 (by assumption) | exact fun z => absurd z.2.2 (by assumption)), (by first | assumption | exact fun z => absurd z.1 (by assumption) | exact fun z => absurd z.2.1 (by assumption) | exact fun z => absurd z.2.2.1 (by assumption) | exact fun z => absurd z.2.2.2 (by assumption) | exact fun z => absurd z.2 (by assumption) | exact fun z => absurd z.2.2 (by assumption)), rfl, hR⟩)))
      · have c_25 := fw_b0 c_25
        refine lv_iconst (v := 1) hx hb dX9_come_43 (by decide) ?_
        refine lv_goto (tgt := 57) hx hb dX9_come_44 (by decide) ?_
        refine fw_callVi hx hb hml hown hts hE hw [.int 1] [] (c_X9_holds l D A y sa f β μ 1 hR) (cwV 1 hts gX9_come_X9_holds rfl rfl rfl (by decide +kernel) ⟨Nat.le_of_ble_eq_true rfl, Nat.le_of_ble_eq_true rfl⟩) (ci := 9) rfl rfl hR.o rfl hl.1 rfl (Nat.le_of_ble_eq_true rfl) dX9_come_57 ⟨Nat.le_of_ble_eq_true rfl, Nat.le_of_ble_eq_true rfl⟩ (fun r31 f32 H locs hp33 hw => ?_)
        obtain ⟨hp33a, hR⟩ := hp33
        rw [if_neg (by decide)] at hp33a
        rw [hp33a]
        refine lv_if_ne (tgt := 65) hx hb dX9_come_60 (by decide) (fun c_34 => absurd c_34 (by decide)) (fun _ => ?_)
        refine lv_iconst (v := 0) hx hb dX9_come_63 (by decide) ?_
        exact fw_iret hx hb hr hlocks hw (Nat.le_of_ble_eq_true rfl) (Nat.le_of_ble_eq_true rfl) dX9_come_64 (Or.inl (⟨(by first | assumption | exact fun z => absurd z.1 (by assumption) | exact fun z => absurd z.2.1 (by assumption) | exact fun z => absurd z.2.2.1 (by assumption) | exact fun z => absurd z.2.2.2 (by assumption) | exact fun z => absurd z.2 (by assumption) | exact fun z => absurd z.2.2 (by assumption)), rfl, hR⟩))
    · have c_21 := fw_b1 c_21
      refine lv_iload hx hb dX9_come_17 (lv_at hl 4 rfl) ?_
      refine lv_iload hx hb dX9_come_19 (lv_at hl 5 rfl) ?_
      refine fw_callSi hx hb hml hown hts hE hw [.int p3, .int p4] [] (c_X9_areHours l D A y sa f p3 p4) (va_cwS 2 hts gX9_come_X9_areHours rfl rfl rfl (by decide +kernel) ⟨Nat.le_of_ble_eq_true rfl, Nat.le_of_ble_eq_true rfl⟩) rfl hl.1 rfl (Nat.le_of_ble_eq_true rfl) dX9_come_21 ⟨Nat.le_of_ble_eq_true rfl, Nat.le_of_ble_eq_true rfl⟩ (fun r35 f36 H locs hp37 hw => ?_)
      obtain ⟨hp37a, hp37b⟩ := hp37
      rw [hp37b] at hw
      rw [hp37a]
      refine lv_if_eq (tgt := 31) hx hb dX9_come_24 (by decide) (fun c_38 => ?_) (fun c_38 => ?_)
      · have c_38 := fw_b0 c_38
        refine lv_iconst (v := 0) hx hb dX9_come_31 (by decide) ?_
        refine lv_istore (lv' := [(6, .int 0), (0, .ref (β 0)), (1, .int p0), (2, .int p1), (3, .int p2), (4, .int p3), (5, .int p4)]) hx hb dX9_come_32 hl (by decide) rfl (fun ls hl => ?_)
        refine lv_aload_n hx hb dX9_come_34 rfl (lv_at hl 1 rfl) ?_
        refine lv_aload_n hx hb dX9_come_35 rfl (lv_at hl 1 rfl) ?_
        refine lv_iload_n hx hb dX9_come_36 rfl (lv_at hl 2 rfl) ?_
        refine fw_callVi hx hb hml hown hts hE hw [.int p0] [.ref (β 0)] (c_X9_isWorker l D A y sa f β μ p0 hR) (cwV 1 hts gX9_come_X9_isWorker rfl rfl rfl (by decide +kernel) ⟨Nat.le_of_ble_eq_true rfl, Nat.le_of_ble_eq_true rfl⟩) (ci := 9) rfl rfl hR.o rfl hl.1 rfl (Nat.le_of_ble_eq_true rfl) dX9_come_37 ⟨Nat.le_of_ble_eq_true rfl, Nat.le_of_ble_eq_true rfl⟩ (fun r39 f40 H locs hp41 hw => ?_)
        obtain ⟨hp41a, hp41b⟩ := hp41
        rw [hp41b] at hw
        have hp41c : r39 = (if inr p0 0 (nI nw - 1) then 1 else 0) := hp41a.trans (by rw [show μ 2 0 = nI nw from hI1])
        rw [hp41c]
        refine lv_if_ne (tgt := 47) hx hb dX9_come_40 (by decide) (fun c_42 => ?_) (fun c_42 => ?_)
        · have c_42 := fw_b1 c_42
          refine lv_iload hx hb dX9_come_47 (lv_at hl 0 rfl) ?_
          refine lv_if_eq (tgt := 56) hx hb dX9_come_49 (by decide) (fun _ => ?_) (fun c_43 => absurd c_43 (by decide))
          refine lv_iconst (v := 2) hx hb dX9_come_56 (by decide) ?_
          refine fw_callVi hx hb hml hown hts hE hw [.int 2] [] (c_X9_holds l D A y sa f β μ 2 hR) (cwV 1 hts gX9_come_X9_holds rfl rfl rfl (by decide +kernel) ⟨Nat.le_of_ble_eq_true rfl, Nat.le_of_ble_eq_true rfl⟩) (ci := 9) rfl rfl hR.o rfl hl.1 rfl (Nat.le_of_ble_eq_true rfl) dX9_come_57 ⟨Nat.le_of_ble_eq_true rfl, Nat.le_of_ble_eq_true rfl⟩ (fun r44 f45 H locs hp46 hw => ?_)
          obtain ⟨hp46a, hR⟩ := hp46
          rw [if_neg (by decide)] at hp46a
          rw [hp46a]
          refine lv_if_ne (tgt := 65) hx hb dX9_come_60 (by decide) (fun c_47 => absurd c_47 (by decide)) (fun _ => ?_)
          refine lv_iconst (v := 0) hx hb dX9_come_63 (by decide) ?_
          exact fw_iret hx hb hr hlocks hw (Nat.le_of_ble_eq_true rfl) (Nat.le_of_ble_eq_true rfl) dX9_come_64 (Or.inr (Or.inl (⟨(by first | assumption | exact fun z => absurd z.1 (by assumption) | exact fun z => absurd z.2.1 (by assumption) | exact fun z => absurd z.2.2.1 (by assumption) | exact fun z => absurd z.2.2.2 (by assumption) | exact fun z => absurd z.2 (by assumption) | exact fun z => absurd z.2.2 (by assumption)), (by first | assumption | exact fun z => absurd z.1 (by assumption) | exact fun z => absurd z.2.1 (by assumption) | exact fun z => absurd z.2.2.1 (by assumption) | exact fun z => absurd z.2.2.2 (by assumption) | exact fun z => absurd z.2 (by assumption) | exact fun z => absurd z.2.2 (by assumption)), rfl, hR⟩)))
        · have c_42 := fw_b0 c_42
          refine lv_iconst (v := 1) hx hb dX9_come_43 (by decide) ?_
          refine lv_goto (tgt := 57) hx hb dX9_come_44 (by decide) ?_
          refine fw_callVi hx hb hml hown hts hE hw [.int 1] [] (c_X9_holds l D A y sa f β μ 1 hR) (cwV 1 hts gX9_come_X9_holds rfl rfl rfl (by decide +kernel) ⟨Nat.le_of_ble_eq_true rfl, Nat.le_of_ble_eq_true rfl⟩) (ci := 9) rfl rfl hR.o rfl hl.1 rfl (Nat.le_of_ble_eq_true rfl) dX9_come_57 ⟨Nat.le_of_ble_eq_true rfl, Nat.le_of_ble_eq_true rfl⟩ (fun r48 f49 H locs hp50 hw => ?_)
          obtain ⟨hp50a, hR⟩ := hp50
          rw [if_neg (by decide)] at hp50a
          rw [hp50a]
          refine lv_if_ne (tgt := 65) hx hb dX9_come_60 (by decide) (fun c_51 => absurd c_51 (by decide)) (fun _ => ?_)
          refine lv_iconst (v := 0) hx hb dX9_come_63 (by decide) ?_
          exact fw_iret hx hb hr hlocks hw (Nat.le_of_ble_eq_true rfl) (Nat.le_of_ble_eq_true rfl) dX9_come_64 (Or.inl (⟨(by first | assumption | exact fun z => absurd z.1 (by assumption) | exact fun z => absurd z.2.1 (by assumption) | exact fun z => absurd z.2.2.1 (by assumption) | exact fun z => absurd z.2.2.2 (by assumption) | exact fun z => absurd z.2 (by assumption) | exact fun z => absurd z.2.2 (by assumption)), rfl, hR⟩))
      · have c_38 := fw_b1 c_38
        refine lv_iconst (v := 1) hx hb dX9_come_27 (by decide) ?_
        refine lv_goto (tgt := 32) hx hb dX9_come_28 (by decide) ?_
        refine lv_istore (lv' := [(6, .int 1), (0, .ref (β 0)), (1, .int p0), (2, .int p1), (3, .int p2), (4, .int p3), (5, .int p4)]) hx hb dX9_come_32 hl (by decide) rfl (fun ls hl => ?_)
        refine lv_aload_n hx hb dX9_come_34 rfl (lv_at hl 1 rfl) ?_
        refine lv_aload_n hx hb dX9_come_35 rfl (lv_at hl 1 rfl) ?_
        refine lv_iload_n hx hb dX9_come_36 rfl (lv_at hl 2 rfl) ?_
        refine fw_callVi hx hb hml hown hts hE hw [.int p0] [.ref (β 0)] (c_X9_isWorker l D A y sa f β μ p0 hR) (cwV 1 hts gX9_come_X9_isWorker rfl rfl rfl (by decide +kernel) ⟨Nat.le_of_ble_eq_true rfl, Nat.le_of_ble_eq_true rfl⟩) (ci := 9) rfl rfl hR.o rfl hl.1 rfl (Nat.le_of_ble_eq_true rfl) dX9_come_37 ⟨Nat.le_of_ble_eq_true rfl, Nat.le_of_ble_eq_true rfl⟩ (fun r52 f53 H locs hp54 hw => ?_)
        obtain ⟨hp54a, hp54b⟩ := hp54
        rw [hp54b] at hw
        have hp54c : r52 = (if inr p0 0 (nI nw - 1) then 1 else 0) := hp54a.trans (by rw [show μ 2 0 = nI nw from hI1])
        rw [hp54c]
        refine lv_if_ne (tgt := 47) hx hb dX9_come_40 (by decide) (fun c_55 => ?_) (fun c_55 => ?_)
        · have c_55 := fw_b1 c_55
          refine lv_iload hx hb dX9_come_47 (lv_at hl 0 rfl) ?_
          refine lv_if_eq (tgt := 56) hx hb dX9_come_49 (by decide) (fun c_56 => absurd c_56 (by decide)) (fun _ => ?_)
          refine lv_iconst (v := 0) hx hb dX9_come_52 (by decide) ?_
          refine lv_goto (tgt := 57) hx hb dX9_come_53 (by decide) ?_
          refine fw_callVi hx hb hml hown hts hE hw [.int 0] [] (c_X9_holds l D A y sa f β μ 0 hR) (cwV 1 hts gX9_come_X9_holds rfl rfl rfl (by decide +kernel) ⟨Nat.le_of_ble_eq_true rfl, Nat.le_of_ble_eq_true rfl⟩) (ci := 9) rfl rfl hR.o rfl hl.1 rfl (Nat.le_of_ble_eq_true rfl) dX9_come_57 ⟨Nat.le_of_ble_eq_true rfl, Nat.le_of_ble_eq_true rfl⟩ (fun r57 f58 H locs hp59 hw => ?_)
          obtain ⟨hp59a, hR⟩ := hp59
          rw [if_pos rfl] at hp59a
          rw [hp59a]
          refine lv_if_ne (tgt := 65) hx hb dX9_come_60 (by decide) (fun _ => ?_) (fun c_60 => absurd c_60 (by decide))
          obtain ⟨wv, hwv, rfl⟩ := inr_w (n := nw) (by omega) c_55
          obtain ⟨sv, hsv, rfl⟩ := inr_of (n := 19) (by decide) c_4
          refine lv_bipush (v := 20) hx hb dX9_come_65 (by decide) ?_
          refine lv_iload_n hx hb dX9_come_67 rfl (lv_at hl 2 rfl) ?_
          refine lv_imul hx hb dX9_come_68 ?_
          rw [show ((20 * (nI wv)) : Int32) = (nI (20 * wv)) from nI_mul (20) (wv)]
          refine lv_iload_n hx hb dX9_come_69 rfl (lv_at hl 3 rfl) ?_
          refine lv_iadd hx hb dX9_come_70 ?_
          rw [show (((nI (20 * wv)) + (nI sv)) : Int32) = (nI (((20 * wv)) + sv)) from nI_add ((20 * wv)) (sv)]
          refine lv_istore (lv' := [(7, .int (nI (((20 * wv)) + sv))), (6, .int 1), (0, .ref (β 0)), (1, .int (nI wv)), (2, .int (nI sv)), (3, .int p2), (4, .int p3), (5, .int p4)]) hx hb dX9_come_71 hl (by decide) rfl (fun ls hl => ?_)
          refine lv_aload_n hx hb dX9_come_73 rfl (lv_at hl 2 rfl) ?_
          refine fw_get hx hb hts hown hE.1.1 hw (ci := 9) (fs := [.int 0, .int (μ 1 0), .int (μ 2 0), .ref (β 3), .ref (β 4), .ref (β 5), .ref (β 6), .ref (β 7), .ref (β 8), .ref (β 9), .ref (β 10), .ref (β 11), .ref (β 12), .int (μ 13 0), .ref (β 14), .ref (β 15), .ref (β 16), .ref (β 17), .int (μ 18 0), .ref (β 19), .ref (β 20), .int (μ 21 0), .ref (β 22), .ref (β 23), .ref (β 24)]) (v := .ref (β 7)) hR.o iX9_come_9 rfl 7 (by decide) rfl (by decide +kernel) dX9_come_74 ?_
          refine lv_iload hx hb dX9_come_77 (lv_at hl 0 rfl) ?_
          refine fw_iald hx hb hE.1.1 hw (g := (μ 7)) hR.a7 0 rfl (vp_in_nI (by omega) (by decide)) dX9_come_79 ?_
          rw [nI_clamp (n := (((20 * wv)) + sv)) (by omega)]
          refine lv_iconst (v := (-1)) hx hb dX9_come_80 (by decide) ?_
          refine lv_icmp_ne (tgt := 110) hx hb dX9_come_81 (by decide) (fun c_61 => ?_) (fun c_61 => ?_)
          · refine lv_aload_n hx hb dX9_come_110 rfl (lv_at hl 2 rfl) ?_
            refine lv_iload_n hx hb dX9_come_111 rfl (lv_at hl 3 rfl) ?_
            refine fw_callVi hx hb hml hown hts hE hw [.int (nI wv)] [] (c_X9_counting l D A y sa f58 β (up2 μ 0 0 0) wv (by omega) hR) (cwV 1 hts gX9_come_X9_counting rfl rfl rfl (by decide +kernel) ⟨Nat.le_of_ble_eq_true rfl, Nat.le_of_ble_eq_true rfl⟩) (ci := 9) rfl rfl hR.o rfl hl.1 rfl (Nat.le_of_ble_eq_true rfl) dX9_come_112 ⟨Nat.le_of_ble_eq_true rfl, Nat.le_of_ble_eq_true rfl⟩ (fun r62 f63 H locs hp64 hw => ?_)
            obtain ⟨hp64a, hp64b⟩ := hp64
            rw [hp64b] at hw
            rw [hp64a]
            exact fw_iret hx hb hr hlocks hw (Nat.le_of_ble_eq_true rfl) (Nat.le_of_ble_eq_true rfl) dX9_come_115 (Or.inr (Or.inr (⟨wv, sv, hwv, hsv, rfl, rfl, by assumption, (‹inr p3 0 100 ∧ inr p4 0 100›).1, (‹inr p3 0 100 ∧ inr p4 0 100›).2, Or.inr ⟨by assumption, rfl, hR⟩⟩)))
          · refine lv_aload_n hx hb dX9_come_84 rfl (lv_at hl 2 rfl) ?_
            refine fw_get hx hb hts hown hE.1.1 hw (ci := 9) (fs := [.int 0, .int (μ 1 0), .int (μ 2 0), .ref (β 3), .ref (β 4), .ref (β 5), .ref (β 6), .ref (β 7), .ref (β 8), .ref (β 9), .ref (β 10), .ref (β 11), .ref (β 12), .int (μ 13 0), .ref (β 14), .ref (β 15), .ref (β 16), .ref (β 17), .int (μ 18 0), .ref (β 19), .ref (β 20), .int (μ 21 0), .ref (β 22), .ref (β 23), .ref (β 24)]) (v := .ref (β 7)) hR.o iX9_come_9 rfl 7 (by decide) rfl (by decide +kernel) dX9_come_85 ?_
            refine lv_iload hx hb dX9_come_88 (lv_at hl 0 rfl) ?_
            refine lv_iload_n hx hb dX9_come_90 rfl (lv_at hl 5 rfl) ?_
            refine fw_iast hx hb hE.1.1 hw (g := (μ 7)) hR.a7 0 rfl (vp_in_nI (by omega) (by decide)) dX9_come_91 (fun H locs hw => ?_)
            rw [nI_clamp (n := (((20 * wv)) + sv)) (by omega)] at hw
            obtain ⟨f65, ef65⟩ : ∃ z, z = fw_up f58 (β 7) (.inl (y 0, 160, .inl (va_up (μ 7) (((20 * wv)) + sv) p2))) := ⟨_, rfl⟩
            have hw : fw_S D A s.heap f65 H locs := by rw [ef65]; exact hw
            have hR : Rm y (up2 (up2 μ 0 0 0) 7 (((20 * wv)) + sv) p2) β f65 := by rw [ef65]; exact hR.s7 (((20 * wv)) + sv) p2
            refine lv_aload_n hx hb dX9_come_92 rfl (lv_at hl 2 rfl) ?_
            refine fw_get hx hb hts hown hE.1.1 hw (ci := 9) (fs := [.int 0, .int (μ 1 0), .int (μ 2 0), .ref (β 3), .ref (β 4), .ref (β 5), .ref (β 6), .ref (β 7), .ref (β 8), .ref (β 9), .ref (β 10), .ref (β 11), .ref (β 12), .int (μ 13 0), .ref (β 14), .ref (β 15), .ref (β 16), .ref (β 17), .int (μ 18 0), .ref (β 19), .ref (β 20), .int (μ 21 0), .ref (β 22), .ref (β 23), .ref (β 24)]) (v := .ref (β 8)) hR.o iX9_come_9 rfl 8 (by decide) rfl (by decide +kernel) dX9_come_93 ?_
            refine lv_iload hx hb dX9_come_96 (lv_at hl 0 rfl) ?_
            refine lv_iload hx hb dX9_come_98 (lv_at hl 6 rfl) ?_
            refine fw_iast hx hb hE.1.1 hw (g := (μ 8)) hR.a8 0 rfl (vp_in_nI (by omega) (by decide)) dX9_come_100 (fun H locs hw => ?_)
            rw [nI_clamp (n := (((20 * wv)) + sv)) (by omega)] at hw
            obtain ⟨f66, ef66⟩ : ∃ z, z = fw_up f65 (β 8) (.inl (y 0, 160, .inl (va_up (μ 8) (((20 * wv)) + sv) p3))) := ⟨_, rfl⟩
            have hw : fw_S D A s.heap f66 H locs := by rw [ef66]; exact hw
            have hR : Rm y (up2 (up2 (up2 μ 0 0 0) 7 (((20 * wv)) + sv) p2) 8 (((20 * wv)) + sv) p3) β f66 := by rw [ef66]; exact hR.s8 (((20 * wv)) + sv) p3
            refine lv_aload_n hx hb dX9_come_101 rfl (lv_at hl 2 rfl) ?_
            refine fw_get hx hb hts hown hE.1.1 hw (ci := 9) (fs := [.int 0, .int (μ 1 0), .int (μ 2 0), .ref (β 3), .ref (β 4), .ref (β 5), .ref (β 6), .ref (β 7), .ref (β 8), .ref (β 9), .ref (β 10), .ref (β 11), .ref (β 12), .int (μ 13 0), .ref (β 14), .ref (β 15), .ref (β 16), .ref (β 17), .int (μ 18 0), .ref (β 19), .ref (β 20), .int (μ 21 0), .ref (β 22), .ref (β 23), .ref (β 24)]) (v := .ref (β 9)) hR.o iX9_come_9 rfl 9 (by decide) rfl (by decide +kernel) dX9_come_102 ?_
            refine lv_iload hx hb dX9_come_105 (lv_at hl 0 rfl) ?_
            refine lv_iload hx hb dX9_come_107 (lv_at hl 7 rfl) ?_
            refine fw_iast hx hb hE.1.1 hw (g := (μ 9)) hR.a9 0 rfl (vp_in_nI (by omega) (by decide)) dX9_come_109 (fun H locs hw => ?_)
            rw [nI_clamp (n := (((20 * wv)) + sv)) (by omega)] at hw
            obtain ⟨f67, ef67⟩ : ∃ z, z = fw_up f66 (β 9) (.inl (y 0, 160, .inl (va_up (μ 9) (((20 * wv)) + sv) p4))) := ⟨_, rfl⟩
            have hw : fw_S D A s.heap f67 H locs := by rw [ef67]; exact hw
            have hR : Rm y (up2 (up2 (up2 (up2 μ 0 0 0) 7 (((20 * wv)) + sv) p2) 8 (((20 * wv)) + sv) p3) 9 (((20 * wv)) + sv) p4) β f67 := by rw [ef67]; exact hR.s9 (((20 * wv)) + sv) p4
            refine lv_aload_n hx hb dX9_come_110 rfl (lv_at hl 2 rfl) ?_
            refine lv_iload_n hx hb dX9_come_111 rfl (lv_at hl 3 rfl) ?_
            refine fw_callVi hx hb hml hown hts hE hw [.int (nI wv)] [] (c_X9_counting l D A y sa f67 β (up2 (up2 (up2 (up2 μ 0 0 0) 7 (((20 * wv)) + sv) p2) 8 (((20 * wv)) + sv) p3) 9 (((20 * wv)) + sv) p4) wv (by omega) hR) (cwV 1 hts gX9_come_X9_counting rfl rfl rfl (by decide +kernel) ⟨Nat.le_of_ble_eq_true rfl, Nat.le_of_ble_eq_true rfl⟩) (ci := 9) rfl rfl hR.o rfl hl.1 rfl (Nat.le_of_ble_eq_true rfl) dX9_come_112 ⟨Nat.le_of_ble_eq_true rfl, Nat.le_of_ble_eq_true rfl⟩ (fun r68 f69 H locs hp70 hw => ?_)
            obtain ⟨hp70a, hp70b⟩ := hp70
            rw [hp70b] at hw
            rw [hp70a]
            exact fw_iret hx hb hr hlocks hw (Nat.le_of_ble_eq_true rfl) (Nat.le_of_ble_eq_true rfl) dX9_come_115 (Or.inr (Or.inr (⟨wv, sv, hwv, hsv, rfl, rfl, by assumption, (‹inr p3 0 100 ∧ inr p4 0 100›).1, (‹inr p3 0 100 ∧ inr p4 0 100›).2, Or.inl ⟨by assumption, rfl, hR⟩⟩)))
        · have c_55 := fw_b0 c_55
          refine lv_iconst (v := 1) hx hb dX9_come_43 (by decide) ?_
          refine lv_goto (tgt := 57) hx hb dX9_come_44 (by decide) ?_
          refine fw_callVi hx hb hml hown hts hE hw [.int 1] [] (c_X9_holds l D A y sa f β μ 1 hR) (cwV 1 hts gX9_come_X9_holds rfl rfl rfl (by decide +kernel) ⟨Nat.le_of_ble_eq_true rfl, Nat.le_of_ble_eq_true rfl⟩) (ci := 9) rfl rfl hR.o rfl hl.1 rfl (Nat.le_of_ble_eq_true rfl) dX9_come_57 ⟨Nat.le_of_ble_eq_true rfl, Nat.le_of_ble_eq_true rfl⟩ (fun r71 f72 H locs hp73 hw => ?_)
          obtain ⟨hp73a, hR⟩ := hp73
          rw [if_neg (by decide)] at hp73a
          rw [hp73a]
          refine lv_if_ne (tgt := 65) hx hb dX9_come_60 (by decide) (fun c_74 => absurd c_74 (by decide)) (fun _ => ?_)
          refine lv_iconst (v := 0) hx hb dX9_come_63 (by decide) ?_
          exact fw_iret hx hb hr hlocks hw (Nat.le_of_ble_eq_true rfl) (Nat.le_of_ble_eq_true rfl) dX9_come_64 (Or.inl (⟨(by first | assumption | exact fun z => absurd z.1 (by assumption) | exact fun z => absurd z.2.1 (by assumption) | exact fun z => absurd z.2.2.1 (by assumption) | exact fun z => absurd z.2.2.2 (by assumption) | exact fun z => absurd z.2 (by assumption) | exact fun z => absurd z.2.2 (by assumption)), rfl, hR⟩))

theorem iX9_correct_9 : ∀ w ∈ wsX90, w ∈ wsX9_correct := by decide +kernel
set_option maxHeartbeats 4000000 in
set_option maxRecDepth 100000 in
/-- the reference: correct -/
theorem c_X9_correct (l : Launch) (D : va_G) (A : Nat → Prop) (y : Nat → ClassId) (sa : Nat → Nat) (f : fw_F) (β : Nat → Nat) (μ : mS) (p0 p1 p2 p3 : Int32) (nw wk no nt : Nat) (hI : Im μ nw wk no nt) (hR : Rm y μ β f) : Met l yX9_correct wsX9_correct ({ frames := 2, cells := 0, slots := 0, locals := 43 } : Room) (cPc D A y sa f [.ref (β 0), .int p0, .int p1, .int p2, .int p3]) (cQi D A (fun r f1 => (¬ (∃ wv sv, wv < nw ∧ sv ≤ 19 ∧ p0 = nI wv ∧ p1 = nI sv ∧ ¬ μ 7 (20 * wv + sv) = -1) ∧ r = 0 ∧ Rm y (up2 μ 0 0 1) β f1) ∨ ((∃ wv sv, wv < nw ∧ sv ≤ 19 ∧ p0 = nI wv ∧ p1 = nI sv ∧ ¬ μ 7 (20 * wv + sv) = -1) ∧ ¬ (inr p2 0 100 ∧ inr p3 0 100) ∧ r = 0 ∧ Rm y (up2 μ 0 0 2) β f1) ∨ (∃ wv sv, wv < nw ∧ sv ≤ 19 ∧ p0 = nI wv ∧ p1 = nI sv ∧ ¬ μ 7 (20 * wv + sv) = -1 ∧ inr p2 0 100 ∧ inr p3 0 100 ∧ r = μ 8 (20 * wv + sv) + μ 9 (20 * wv + sv) ∧ Rm y (up2 (up2 (up2 μ 0 0 0) 8 (20 * wv + sv) p2) 9 (20 * wv + sv) p3) β f1))) 0 0 A := by
  refine fw_met (by decide) rfl [.ref (β 0), .int p0, .int p1, .int p2, .int p3] (Nat.le_of_ble_eq_true rfl) ?_
  intro p e s m args below meth c ls I hin hE hw hl
  obtain ⟨hx, hb, hr, hts, hown, hlocks, hml⟩ := I
  have hown : s.vm.findClass RX9 = some m.cls := hown
  have hl : lv_has ls 8 [(0, .ref (β 0)), (1, .int p0), (2, .int p1), (3, .int p2), (4, .int p3)] := hl
  obtain ⟨hI1, hI2, hI3, hI4, hI5, hI6, hI7, hI8, hI9, hI10, hI11, hI12, hI13⟩ := id hI
  refine lv_aload_n hx hb dX9_correct_0 rfl (lv_at hl 0 rfl) ?_
  refine lv_iload_n hx hb dX9_correct_1 rfl (lv_at hl 1 rfl) ?_
  refine fw_callVi hx hb hml hown hts hE hw [.int p0] [] (c_X9_isWorker l D A y sa f β μ p0 hR) (cwV 1 hts gX9_correct_X9_isWorker rfl rfl rfl (by decide +kernel) ⟨Nat.le_of_ble_eq_true rfl, Nat.le_of_ble_eq_true rfl⟩) (ci := 9) rfl rfl hR.o rfl hl.1 rfl (Nat.le_of_ble_eq_true rfl) dX9_correct_2 ⟨Nat.le_of_ble_eq_true rfl, Nat.le_of_ble_eq_true rfl⟩ (fun r1 f2 H locs hp3 hw => ?_)
  obtain ⟨hp3a, hp3b⟩ := hp3
  rw [hp3b] at hw
  have hp3c : r1 = (if inr p0 0 (nI nw - 1) then 1 else 0) := hp3a.trans (by rw [show μ 2 0 = nI nw from hI1])
  rw [hp3c]
  refine lv_if_eq (tgt := 37) hx hb dX9_correct_5 (by decide) (fun c_4 => ?_) (fun c_4 => ?_)
  · have c_4 := fw_b0 c_4
    refine lv_iconst (v := 0) hx hb dX9_correct_37 (by decide) ?_
    refine lv_istore (lv' := [(5, .int 0), (0, .ref (β 0)), (1, .int p0), (2, .int p1), (3, .int p2), (4, .int p3)]) hx hb dX9_correct_38 hl (by decide) rfl (fun ls hl => ?_)
    refine lv_aload_n hx hb dX9_correct_40 rfl (lv_at hl 1 rfl) ?_
    refine lv_iload hx hb dX9_correct_41 (lv_at hl 0 rfl) ?_
    refine lv_if_ne (tgt := 50) hx hb dX9_correct_43 (by decide) (fun c_5 => absurd c_5 (by decide)) (fun _ => ?_)
    refine lv_iconst (v := 1) hx hb dX9_correct_46 (by decide) ?_
    refine lv_goto (tgt := 64) hx hb dX9_correct_47 (by decide) ?_
    refine fw_callVi hx hb hml hown hts hE hw [.int 1] [] (c_X9_holds l D A y sa f β μ 1 hR) (cwV 1 hts gX9_correct_X9_holds rfl rfl rfl (by decide +kernel) ⟨Nat.le_of_ble_eq_true rfl, Nat.le_of_ble_eq_true rfl⟩) (ci := 9) rfl rfl hR.o rfl hl.1 rfl (Nat.le_of_ble_eq_true rfl) dX9_correct_64 ⟨Nat.le_of_ble_eq_true rfl, Nat.le_of_ble_eq_true rfl⟩ (fun r6 f7 H locs hp8 hw => ?_)
    obtain ⟨hp8a, hR⟩ := hp8
    rw [if_neg (by decide)] at hp8a
    rw [hp8a]
    refine lv_if_ne (tgt := 72) hx hb dX9_correct_67 (by decide) (fun c_9 => absurd c_9 (by decide)) (fun _ => ?_)
    refine lv_iconst (v := 0) hx hb dX9_correct_70 (by decide) ?_
    exact fw_iret hx hb hr hlocks hw (Nat.le_of_ble_eq_true rfl) (Nat.le_of_ble_eq_true rfl) dX9_correct_71 (Or.inl ⟨fun ⟨wv2, sv2, z1, z2, z3, z4, z5⟩ => c_4 (by rw [z3]; exact inr_wI z1 (by omega)), rfl, hR⟩)
  · have c_4 := fw_b1 c_4
    refine lv_iload_n hx hb dX9_correct_8 rfl (lv_at hl 2 rfl) ?_
    refine lv_iconst (v := 0) hx hb dX9_correct_9 (by decide) ?_
    refine lv_bipush (v := 19) hx hb dX9_correct_10 (by decide) ?_
    refine fw_callSi hx hb hml hown hts hE hw [.int p1, .int 0, .int 19] [] (c_X9_in l D A y sa f p1 0 19) (va_cwS 3 hts gX9_correct_X9_in rfl rfl rfl (by decide +kernel) ⟨Nat.le_of_ble_eq_true rfl, Nat.le_of_ble_eq_true rfl⟩) rfl hl.1 rfl (Nat.le_of_ble_eq_true rfl) dX9_correct_12 ⟨Nat.le_of_ble_eq_true rfl, Nat.le_of_ble_eq_true rfl⟩ (fun r10 f11 H locs hp12 hw => ?_)
    obtain ⟨hp12a, hp12b⟩ := hp12
    rw [hp12b] at hw
    rw [hp12a]
    refine lv_if_eq (tgt := 37) hx hb dX9_correct_15 (by decide) (fun c_13 => ?_) (fun c_13 => ?_)
    · have c_13 := fw_b0 c_13
      refine lv_iconst (v := 0) hx hb dX9_correct_37 (by decide) ?_
      refine lv_istore (lv' := [(5, .int 0), (0, .ref (β 0)), (1, .int p0), (2, .int p1), (3, .int p2), (4, .int p3)]) hx hb dX9_correct_38 hl (by decide) rfl (fun ls hl => ?_)
      refine lv_aload_n hx hb dX9_correct_40 rfl (lv_at hl 1 rfl) ?_
      refine lv_iload hx hb dX9_correct_41 (lv_at hl 0 rfl) ?_
      refine lv_if_ne (tgt := 50) hx hb dX9_correct_43 (by decide) (fun c_14 => absurd c_14 (by decide)) (fun _ => ?_)
      refine lv_iconst (v := 1) hx hb dX9_correct_46 (by decide) ?_
      refine lv_goto (tgt := 64) hx hb dX9_correct_47 (by decide) ?_
      refine fw_callVi hx hb hml hown hts hE hw [.int 1] [] (c_X9_holds l D A y sa f β μ 1 hR) (cwV 1 hts gX9_correct_X9_holds rfl rfl rfl (by decide +kernel) ⟨Nat.le_of_ble_eq_true rfl, Nat.le_of_ble_eq_true rfl⟩) (ci := 9) rfl rfl hR.o rfl hl.1 rfl (Nat.le_of_ble_eq_true rfl) dX9_correct_64 ⟨Nat.le_of_ble_eq_true rfl, Nat.le_of_ble_eq_true rfl⟩ (fun r15 f16 H locs hp17 hw => ?_)
      obtain ⟨hp17a, hR⟩ := hp17
      rw [if_neg (by decide)] at hp17a
      rw [hp17a]
      refine lv_if_ne (tgt := 72) hx hb dX9_correct_67 (by decide) (fun c_18 => absurd c_18 (by decide)) (fun _ => ?_)
      refine lv_iconst (v := 0) hx hb dX9_correct_70 (by decide) ?_
      exact fw_iret hx hb hr hlocks hw (Nat.le_of_ble_eq_true rfl) (Nat.le_of_ble_eq_true rfl) dX9_correct_71 (Or.inl ⟨fun ⟨wv2, sv2, z1, z2, z3, z4, z5⟩ => c_13 (by rw [z4]; exact inr_nI (n := 19) z2 (by decide)), rfl, hR⟩)
    · have c_13 := fw_b1 c_13
      obtain ⟨wv, hwv, rfl⟩ := inr_w (n := nw) (by omega) c_4
      obtain ⟨sv, hsv, rfl⟩ := inr_of (n := 19) (by decide) c_13
      refine lv_aload_n hx hb dX9_correct_18 rfl (lv_at hl 0 rfl) ?_
      refine fw_get hx hb hts hown hE.1.1 hw (ci := 9) (fs := [.int (μ 0 0), .int (μ 1 0), .int (μ 2 0), .ref (β 3), .ref (β 4), .ref (β 5), .ref (β 6), .ref (β 7), .ref (β 8), .ref (β 9), .ref (β 10), .ref (β 11), .ref (β 12), .int (μ 13 0), .ref (β 14), .ref (β 15), .ref (β 16), .ref (β 17), .int (μ 18 0), .ref (β 19), .ref (β 20), .int (μ 21 0), .ref (β 22), .ref (β 23), .ref (β 24)]) (v := .ref (β 7)) hR.o iX9_correct_9 rfl 7 (by decide) rfl (by decide +kernel) dX9_correct_19 ?_
      refine lv_bipush (v := 20) hx hb dX9_correct_22 (by decide) ?_
      refine lv_iload_n hx hb dX9_correct_24 rfl (lv_at hl 1 rfl) ?_
      refine lv_imul hx hb dX9_correct_25 ?_
      rw [show ((20 * (nI wv)) : Int32) = (nI (20 * wv)) from nI_mul (20) (wv)]
      refine lv_iload_n hx hb dX9_correct_26 rfl (lv_at hl 2 rfl) ?_
      refine lv_iadd hx hb dX9_correct_27 ?_
      rw [show (((nI (20 * wv)) + (nI sv)) : Int32) = (nI (((20 * wv)) + sv)) from nI_add ((20 * wv)) (sv)]
      refine fw_iald hx hb hE.1.1 hw (g := (μ 7)) hR.a7 0 rfl (vp_in_nI (by omega) (by decide)) dX9_correct_28 ?_
      rw [nI_clamp (n := (((20 * wv)) + sv)) (by omega)]
      refine lv_iconst (v := (-1)) hx hb dX9_correct_29 (by decide) ?_
      refine lv_icmp_eq (tgt := 37) hx hb dX9_correct_30 (by decide) (fun c_19 => ?_) (fun c_19 => ?_)
      · refine lv_iconst (v := 0) hx hb dX9_correct_37 (by decide) ?_
        refine lv_istore (lv' := [(5, .int 0), (0, .ref (β 0)), (1, .int (nI wv)), (2, .int (nI sv)), (3, .int p2), (4, .int p3)]) hx hb dX9_correct_38 hl (by decide) rfl (fun ls hl => ?_)
        refine lv_aload_n hx hb dX9_correct_40 rfl (lv_at hl 1 rfl) ?_
        refine lv_iload hx hb dX9_correct_41 (lv_at hl 0 rfl) ?_
        refine lv_if_ne (tgt := 50) hx hb dX9_correct_43 (by decide) (fun c_20 => absurd c_20 (by decide)) (fun _ => ?_)
        refine lv_iconst (v := 1) hx hb dX9_correct_46 (by decide) ?_
        refine lv_goto (tgt := 64) hx hb dX9_correct_47 (by decide) ?_
        refine fw_callVi hx hb hml hown hts hE hw [.int 1] [] (c_X9_holds l D A y sa f β μ 1 hR) (cwV 1 hts gX9_correct_X9_holds rfl rfl rfl (by decide +kernel) ⟨Nat.le_of_ble_eq_true rfl, Nat.le_of_ble_eq_true rfl⟩) (ci := 9) rfl rfl hR.o rfl hl.1 rfl (Nat.le_of_ble_eq_true rfl) dX9_correct_64 ⟨Nat.le_of_ble_eq_true rfl, Nat.le_of_ble_eq_true rfl⟩ (fun r21 f22 H locs hp23 hw => ?_)
        obtain ⟨hp23a, hR⟩ := hp23
        rw [if_neg (by decide)] at hp23a
        rw [hp23a]
        refine lv_if_ne (tgt := 72) hx hb dX9_correct_67 (by decide) (fun c_24 => absurd c_24 (by decide)) (fun _ => ?_)
        refine lv_iconst (v := 0) hx hb dX9_correct_70 (by decide) ?_
        exact fw_iret hx hb hr hlocks hw (Nat.le_of_ble_eq_true rfl) (Nat.le_of_ble_eq_true rfl) dX9_correct_71 (Or.inl ⟨fun ⟨wv2, sv2, z1, z2, z3, z4, z5⟩ => z5 (by rw [← nI_inj2 z3 (by omega) (by omega), ← nI_inj2 z4 (by omega) (by omega)]; exact c_19), rfl, hR⟩)
      · refine lv_iconst (v := 1) hx hb dX9_correct_33 (by decide) ?_
        refine lv_goto (tgt := 38) hx hb dX9_correct_34 (by decide) ?_
        refine lv_istore (lv' := [(5, .int 1), (0, .ref (β 0)), (1, .int (nI wv)), (2, .int (nI sv)), (3, .int p2), (4, .int p3)]) hx hb dX9_correct_38 hl (by decide) rfl (fun ls hl => ?_)
        refine lv_aload_n hx hb dX9_correct_40 rfl (lv_at hl 1 rfl) ?_
        refine lv_iload hx hb dX9_correct_41 (lv_at hl 0 rfl) ?_
        refine lv_if_ne (tgt := 50) hx hb dX9_correct_43 (by decide) (fun _ => ?_) (fun c_25 => absurd c_25 (by decide))
        refine lv_iload_n hx hb dX9_correct_50 rfl (lv_at hl 4 rfl) ?_
        refine lv_iload hx hb dX9_correct_51 (lv_at hl 5 rfl) ?_
        refine fw_callSi hx hb hml hown hts hE hw [.int p2, .int p3] [.ref (β 0)] (c_X9_areHours l D A y sa f p2 p3) (va_cwS 2 hts gX9_correct_X9_areHours rfl rfl rfl (by decide +kernel) ⟨Nat.le_of_ble_eq_true rfl, Nat.le_of_ble_eq_true rfl⟩) rfl hl.1 rfl (Nat.le_of_ble_eq_true rfl) dX9_correct_53 ⟨Nat.le_of_ble_eq_true rfl, Nat.le_of_ble_eq_true rfl⟩ (fun r26 f27 H locs hp28 hw => ?_)
        obtain ⟨hp28a, hp28b⟩ := hp28
        rw [hp28b] at hw
        rw [hp28a]
        refine lv_if_eq (tgt := 63) hx hb dX9_correct_56 (by decide) (fun c_29 => ?_) (fun c_29 => ?_)
        · have c_29 := fw_b0 c_29
          refine lv_iconst (v := 2) hx hb dX9_correct_63 (by decide) ?_
          refine fw_callVi hx hb hml hown hts hE hw [.int 2] [] (c_X9_holds l D A y sa f β μ 2 hR) (cwV 1 hts gX9_correct_X9_holds rfl rfl rfl (by decide +kernel) ⟨Nat.le_of_ble_eq_true rfl, Nat.le_of_ble_eq_true rfl⟩) (ci := 9) rfl rfl hR.o rfl hl.1 rfl (Nat.le_of_ble_eq_true rfl) dX9_correct_64 ⟨Nat.le_of_ble_eq_true rfl, Nat.le_of_ble_eq_true rfl⟩ (fun r30 f31 H locs hp32 hw => ?_)
          obtain ⟨hp32a, hR⟩ := hp32
          rw [if_neg (by decide)] at hp32a
          rw [hp32a]
          refine lv_if_ne (tgt := 72) hx hb dX9_correct_67 (by decide) (fun c_33 => absurd c_33 (by decide)) (fun _ => ?_)
          refine lv_iconst (v := 0) hx hb dX9_correct_70 (by decide) ?_
          exact fw_iret hx hb hr hlocks hw (Nat.le_of_ble_eq_true rfl) (Nat.le_of_ble_eq_true rfl) dX9_correct_71 (Or.inr (Or.inl ⟨⟨wv, sv, hwv, hsv, rfl, rfl, by assumption⟩, by assumption, rfl, hR⟩))
        · have c_29 := fw_b1 c_29
          refine lv_iconst (v := 0) hx hb dX9_correct_59 (by decide) ?_
          refine lv_goto (tgt := 64) hx hb dX9_correct_60 (by decide) ?_
          refine fw_callVi hx hb hml hown hts hE hw [.int 0] [] (c_X9_holds l D A y sa f β μ 0 hR) (cwV 1 hts gX9_correct_X9_holds rfl rfl rfl (by decide +kernel) ⟨Nat.le_of_ble_eq_true rfl, Nat.le_of_ble_eq_true rfl⟩) (ci := 9) rfl rfl hR.o rfl hl.1 rfl (Nat.le_of_ble_eq_true rfl) dX9_correct_64 ⟨Nat.le_of_ble_eq_true rfl, Nat.le_of_ble_eq_true rfl⟩ (fun r34 f35 H locs hp36 hw => ?_)
          obtain ⟨hp36a, hR⟩ := hp36
          rw [if_pos rfl] at hp36a
          rw [hp36a]
          refine lv_if_ne (tgt := 72) hx hb dX9_correct_67 (by decide) (fun _ => ?_) (fun c_37 => absurd c_37 (by decide))
          refine lv_bipush (v := 20) hx hb dX9_correct_72 (by decide) ?_
          refine lv_iload_n hx hb dX9_correct_74 rfl (lv_at hl 2 rfl) ?_
          refine lv_imul hx hb dX9_correct_75 ?_
          rw [show ((20 * (nI wv)) : Int32) = (nI (20 * wv)) from nI_mul (20) (wv)]
          refine lv_iload_n hx hb dX9_correct_76 rfl (lv_at hl 3 rfl) ?_
          refine lv_iadd hx hb dX9_correct_77 ?_
          rw [show (((nI (20 * wv)) + (nI sv)) : Int32) = (nI (((20 * wv)) + sv)) from nI_add ((20 * wv)) (sv)]
          refine lv_istore (lv' := [(6, .int (nI (((20 * wv)) + sv))), (5, .int 1), (0, .ref (β 0)), (1, .int (nI wv)), (2, .int (nI sv)), (3, .int p2), (4, .int p3)]) hx hb dX9_correct_78 hl (by decide) rfl (fun ls hl => ?_)
          refine lv_aload_n hx hb dX9_correct_80 rfl (lv_at hl 2 rfl) ?_
          refine fw_get hx hb hts hown hE.1.1 hw (ci := 9) (fs := [.int 0, .int (μ 1 0), .int (μ 2 0), .ref (β 3), .ref (β 4), .ref (β 5), .ref (β 6), .ref (β 7), .ref (β 8), .ref (β 9), .ref (β 10), .ref (β 11), .ref (β 12), .int (μ 13 0), .ref (β 14), .ref (β 15), .ref (β 16), .ref (β 17), .int (μ 18 0), .ref (β 19), .ref (β 20), .int (μ 21 0), .ref (β 22), .ref (β 23), .ref (β 24)]) (v := .ref (β 8)) hR.o iX9_correct_9 rfl 8 (by decide) rfl (by decide +kernel) dX9_correct_81 ?_
          refine lv_iload hx hb dX9_correct_84 (lv_at hl 0 rfl) ?_
          refine fw_iald hx hb hE.1.1 hw (g := (μ 8)) hR.a8 0 rfl (vp_in_nI (by omega) (by decide)) dX9_correct_86 ?_
          rw [nI_clamp (n := (((20 * wv)) + sv)) (by omega)]
          refine lv_aload_n hx hb dX9_correct_87 rfl (lv_at hl 2 rfl) ?_
          refine fw_get hx hb hts hown hE.1.1 hw (ci := 9) (fs := [.int 0, .int (μ 1 0), .int (μ 2 0), .ref (β 3), .ref (β 4), .ref (β 5), .ref (β 6), .ref (β 7), .ref (β 8), .ref (β 9), .ref (β 10), .ref (β 11), .ref (β 12), .int (μ 13 0), .ref (β 14), .ref (β 15), .ref (β 16), .ref (β 17), .int (μ 18 0), .ref (β 19), .ref (β 20), .int (μ 21 0), .ref (β 22), .ref (β 23), .ref (β 24)]) (v := .ref (β 9)) hR.o iX9_correct_9 rfl 9 (by decide) rfl (by decide +kernel) dX9_correct_88 ?_
          refine lv_iload hx hb dX9_correct_91 (lv_at hl 0 rfl) ?_
          refine fw_iald hx hb hE.1.1 hw (g := (μ 9)) hR.a9 0 rfl (vp_in_nI (by omega) (by decide)) dX9_correct_93 ?_
          rw [nI_clamp (n := (((20 * wv)) + sv)) (by omega)]
          refine lv_iadd hx hb dX9_correct_94 ?_
          refine lv_istore (lv' := [(7, .int (((μ 8) (((20 * wv)) + sv)) + ((μ 9) (((20 * wv)) + sv)))), (6, .int (nI (((20 * wv)) + sv))), (5, .int 1), (0, .ref (β 0)), (1, .int (nI wv)), (2, .int (nI sv)), (3, .int p2), (4, .int p3)]) hx hb dX9_correct_95 hl (by decide) rfl (fun ls hl => ?_)
          refine lv_aload_n hx hb dX9_correct_97 rfl (lv_at hl 3 rfl) ?_
          refine fw_get hx hb hts hown hE.1.1 hw (ci := 9) (fs := [.int 0, .int (μ 1 0), .int (μ 2 0), .ref (β 3), .ref (β 4), .ref (β 5), .ref (β 6), .ref (β 7), .ref (β 8), .ref (β 9), .ref (β 10), .ref (β 11), .ref (β 12), .int (μ 13 0), .ref (β 14), .ref (β 15), .ref (β 16), .ref (β 17), .int (μ 18 0), .ref (β 19), .ref (β 20), .int (μ 21 0), .ref (β 22), .ref (β 23), .ref (β 24)]) (v := .ref (β 8)) hR.o iX9_correct_9 rfl 8 (by decide) rfl (by decide +kernel) dX9_correct_98 ?_
          refine lv_iload hx hb dX9_correct_101 (lv_at hl 1 rfl) ?_
          refine lv_iload_n hx hb dX9_correct_103 rfl (lv_at hl 6 rfl) ?_
          refine fw_iast hx hb hE.1.1 hw (g := (μ 8)) hR.a8 0 rfl (vp_in_nI (by omega) (by decide)) dX9_correct_104 (fun H locs hw => ?_)
          rw [nI_clamp (n := (((20 * wv)) + sv)) (by omega)] at hw
          obtain ⟨f38, ef38⟩ : ∃ z, z = fw_up f35 (β 8) (.inl (y 0, 160, .inl (va_up (μ 8) (((20 * wv)) + sv) p2))) := ⟨_, rfl⟩
          have hw : fw_S D A s.heap f38 H locs := by rw [ef38]; exact hw
          have hR : Rm y (up2 (up2 μ 0 0 0) 8 (((20 * wv)) + sv) p2) β f38 := by rw [ef38]; exact hR.s8 (((20 * wv)) + sv) p2
          refine lv_aload_n hx hb dX9_correct_105 rfl (lv_at hl 3 rfl) ?_
          refine fw_get hx hb hts hown hE.1.1 hw (ci := 9) (fs := [.int 0, .int (μ 1 0), .int (μ 2 0), .ref (β 3), .ref (β 4), .ref (β 5), .ref (β 6), .ref (β 7), .ref (β 8), .ref (β 9), .ref (β 10), .ref (β 11), .ref (β 12), .int (μ 13 0), .ref (β 14), .ref (β 15), .ref (β 16), .ref (β 17), .int (μ 18 0), .ref (β 19), .ref (β 20), .int (μ 21 0), .ref (β 22), .ref (β 23), .ref (β 24)]) (v := .ref (β 9)) hR.o iX9_correct_9 rfl 9 (by decide) rfl (by decide +kernel) dX9_correct_106 ?_
          refine lv_iload hx hb dX9_correct_109 (lv_at hl 1 rfl) ?_
          refine lv_iload hx hb dX9_correct_111 (lv_at hl 7 rfl) ?_
          refine fw_iast hx hb hE.1.1 hw (g := (μ 9)) hR.a9 0 rfl (vp_in_nI (by omega) (by decide)) dX9_correct_113 (fun H locs hw => ?_)
          rw [nI_clamp (n := (((20 * wv)) + sv)) (by omega)] at hw
          obtain ⟨f39, ef39⟩ : ∃ z, z = fw_up f38 (β 9) (.inl (y 0, 160, .inl (va_up (μ 9) (((20 * wv)) + sv) p3))) := ⟨_, rfl⟩
          have hw : fw_S D A s.heap f39 H locs := by rw [ef39]; exact hw
          have hR : Rm y (up2 (up2 (up2 μ 0 0 0) 8 (((20 * wv)) + sv) p2) 9 (((20 * wv)) + sv) p3) β f39 := by rw [ef39]; exact hR.s9 (((20 * wv)) + sv) p3
          refine lv_iload hx hb dX9_correct_114 (lv_at hl 0 rfl) ?_
          exact fw_iret hx hb hr hlocks hw (Nat.le_of_ble_eq_true rfl) (Nat.le_of_ble_eq_true rfl) dX9_correct_116 (Or.inr (Or.inr (⟨wv, sv, hwv, hsv, rfl, rfl, by assumption, (‹inr p2 0 100 ∧ inr p3 0 100›).1, (‹inr p2 0 100 ∧ inr p3 0 100›).2, rfl, hR⟩)))

theorem iX9_order_9 : ∀ w ∈ wsX90, w ∈ wsX9_order := by decide +kernel
set_option maxHeartbeats 4000000 in
set_option maxRecDepth 100000 in
/-- the reference: order -/
theorem c_X9_order (l : Launch) (D : va_G) (A : Nat → Prop) (y : Nat → ClassId) (sa : Nat → Nat) (f : fw_F) (β : Nat → Nat) (μ : mS) (p0 p1 p2 p3 : Int32) (nw wk no nt : Nat) (hI : Im μ nw wk no nt) (hR : Rm y μ β f) : Met l yX9_order wsX9_order ({ frames := 2, cells := 0, slots := 0, locals := 43 } : Room) (cPc D A y sa f [.ref (β 0), .int p0, .int p1, .int p2, .int p3]) (cQi D A (fun r f1 => (¬ inr p0 0 (nI nw - 1) ∧ r = 0 ∧ Rm y (up2 μ 0 0 1) β f1) ∨ (inr p0 0 (nI nw - 1) ∧ ¬ (inr p1 0 2 ∧ inr p2 1 10000000 ∧ inr p3 1 1000000) ∧ r = 0 ∧ Rm y (up2 μ 0 0 2) β f1) ∨ (inr p0 0 (nI nw - 1) ∧ inr p1 0 2 ∧ inr p2 1 10000000 ∧ inr p3 1 1000000 ∧ nI no = 20 ∧ r = 0 ∧ Rm y (up2 μ 0 0 3) β f1) ∨ (∃ wv, wv < nw ∧ p0 = nI wv ∧ inr p1 0 2 ∧ inr p2 1 10000000 ∧ inr p3 1 1000000 ∧ ¬ nI no = 20 ∧ r = nI no ∧ Rm y (up2 (up2 (up2 (up2 (up2 (up2 μ 0 0 0) 14 no p0) 15 no p1) 16 no p2) 17 no p3) 13 0 (nI (no + 1))) β f1))) 0 0 A := by
  refine fw_met (by decide) rfl [.ref (β 0), .int p0, .int p1, .int p2, .int p3] (Nat.le_of_ble_eq_true rfl) ?_
  intro p e s m args below meth c ls I hin hE hw hl
  obtain ⟨hx, hb, hr, hts, hown, hlocks, hml⟩ := I
  have hown : s.vm.findClass RX9 = some m.cls := hown
  have hl : lv_has ls 6 [(0, .ref (β 0)), (1, .int p0), (2, .int p1), (3, .int p2), (4, .int p3)] := hl
  obtain ⟨hI1, hI2, hI3, hI4, hI5, hI6, hI7, hI8, hI9, hI10, hI11, hI12, hI13⟩ := id hI
  refine lv_iload_n hx hb dX9_order_0 rfl (lv_at hl 2 rfl) ?_
  refine lv_iconst (v := 0) hx hb dX9_order_1 (by decide) ?_
  refine lv_iconst (v := 2) hx hb dX9_order_2 (by decide) ?_
  refine fw_callSi hx hb hml hown hts hE hw [.int p1, .int 0, .int 2] [] (c_X9_in l D A y sa f p1 0 2) (va_cwS 3 hts gX9_order_X9_in rfl rfl rfl (by decide +kernel) ⟨Nat.le_of_ble_eq_true rfl, Nat.le_of_ble_eq_true rfl⟩) rfl hl.1 rfl (Nat.le_of_ble_eq_true rfl) dX9_order_3 ⟨Nat.le_of_ble_eq_true rfl, Nat.le_of_ble_eq_true rfl⟩ (fun r1 f2 H locs hp3 hw => ?_)
  obtain ⟨hp3a, hp3b⟩ := hp3
  rw [hp3b] at hw
  rw [hp3a]
  refine lv_if_eq (tgt := 34) hx hb dX9_order_6 (by decide) (fun c_4 => ?_) (fun c_4 => ?_)
  · have c_4 := fw_b0 c_4
    refine lv_iconst (v := 0) hx hb dX9_order_34 (by decide) ?_
    refine lv_istore (lv' := [(5, .int 0), (0, .ref (β 0)), (1, .int p0), (2, .int p1), (3, .int p2), (4, .int p3)]) hx hb dX9_order_35 hl (by decide) rfl (fun ls hl => ?_)
    refine lv_aload_n hx hb dX9_order_37 rfl (lv_at hl 1 rfl) ?_
    refine lv_aload_n hx hb dX9_order_38 rfl (lv_at hl 1 rfl) ?_
    refine lv_iload_n hx hb dX9_order_39 rfl (lv_at hl 2 rfl) ?_
    refine fw_callVi hx hb hml hown hts hE hw [.int p0] [.ref (β 0)] (c_X9_isWorker l D A y sa f β μ p0 hR) (cwV 1 hts gX9_order_X9_isWorker rfl rfl rfl (by decide +kernel) ⟨Nat.le_of_ble_eq_true rfl, Nat.le_of_ble_eq_true rfl⟩) (ci := 9) rfl rfl hR.o rfl hl.1 rfl (Nat.le_of_ble_eq_true rfl) dX9_order_40 ⟨Nat.le_of_ble_eq_true rfl, Nat.le_of_ble_eq_true rfl⟩ (fun r5 f6 H locs hp7 hw => ?_)
    obtain ⟨hp7a, hp7b⟩ := hp7
    rw [hp7b] at hw
    have hp7c : r5 = (if inr p0 0 (nI nw - 1) then 1 else 0) := hp7a.trans (by rw [show μ 2 0 = nI nw from hI1])
    rw [hp7c]
    refine lv_if_ne (tgt := 50) hx hb dX9_order_43 (by decide) (fun c_8 => ?_) (fun c_8 => ?_)
    · have c_8 := fw_b1 c_8
      refine lv_iload hx hb dX9_order_50 (lv_at hl 0 rfl) ?_
      refine lv_if_ne (tgt := 59) hx hb dX9_order_52 (by decide) (fun c_9 => absurd c_9 (by decide)) (fun _ => ?_)
      refine lv_iconst (v := 2) hx hb dX9_order_55 (by decide) ?_
      refine lv_goto (tgt := 73) hx hb dX9_order_56 (by decide) ?_
      refine fw_callVi hx hb hml hown hts hE hw [.int 2] [] (c_X9_holds l D A y sa f β μ 2 hR) (cwV 1 hts gX9_order_X9_holds rfl rfl rfl (by decide +kernel) ⟨Nat.le_of_ble_eq_true rfl, Nat.le_of_ble_eq_true rfl⟩) (ci := 9) rfl rfl hR.o rfl hl.1 rfl (Nat.le_of_ble_eq_true rfl) dX9_order_73 ⟨Nat.le_of_ble_eq_true rfl, Nat.le_of_ble_eq_true rfl⟩ (fun r10 f11 H locs hp12 hw => ?_)
      obtain ⟨hp12a, hR⟩ := hp12
      rw [if_neg (by decide)] at hp12a
      rw [hp12a]
      refine lv_if_ne (tgt := 81) hx hb dX9_order_76 (by decide) (fun c_13 => absurd c_13 (by decide)) (fun _ => ?_)
      refine lv_iconst (v := 0) hx hb dX9_order_79 (by decide) ?_
      exact fw_iret hx hb hr hlocks hw (Nat.le_of_ble_eq_true rfl) (Nat.le_of_ble_eq_true rfl) dX9_order_80 (Or.inr (Or.inl (⟨(by first | assumption | exact fun z => absurd z.1 (by assumption) | exact fun z => absurd z.2.1 (by assumption) | exact fun z => absurd z.2.2.1 (by assumption) | exact fun z => absurd z.2.2.2 (by assumption) | exact fun z => absurd z.2 (by assumption) | exact fun z => absurd z.2.2 (by assumption)), (by first | assumption | exact fun z => absurd z.1 (by assumption) | exact fun z => absurd z.2.1 (by assumption) | exact fun z => absurd z.2.2.1 (by assumption) | exact fun z => absurd z.2.2.2 (by assumption) | exact fun z => absurd z.2 (by assumption) | exact fun z => absurd z.2.2 (by assumption)), rfl, hR⟩)))
    · have c_8 := fw_b0 c_8
      refine lv_iconst (v := 1) hx hb dX9_order_46 (by decide) ?_
      refine lv_goto (tgt := 73) hx hb dX9_order_47 (by decide) ?_
      refine fw_callVi hx hb hml hown hts hE hw [.int 1] [] (c_X9_holds l D A y sa f β μ 1 hR) (cwV 1 hts gX9_order_X9_holds rfl rfl rfl (by decide +kernel) ⟨Nat.le_of_ble_eq_true rfl, Nat.le_of_ble_eq_true rfl⟩) (ci := 9) rfl rfl hR.o rfl hl.1 rfl (Nat.le_of_ble_eq_true rfl) dX9_order_73 ⟨Nat.le_of_ble_eq_true rfl, Nat.le_of_ble_eq_true rfl⟩ (fun r14 f15 H locs hp16 hw => ?_)
      obtain ⟨hp16a, hR⟩ := hp16
      rw [if_neg (by decide)] at hp16a
      rw [hp16a]
      refine lv_if_ne (tgt := 81) hx hb dX9_order_76 (by decide) (fun c_17 => absurd c_17 (by decide)) (fun _ => ?_)
      refine lv_iconst (v := 0) hx hb dX9_order_79 (by decide) ?_
      exact fw_iret hx hb hr hlocks hw (Nat.le_of_ble_eq_true rfl) (Nat.le_of_ble_eq_true rfl) dX9_order_80 (Or.inl (⟨(by first | assumption | exact fun z => absurd z.1 (by assumption) | exact fun z => absurd z.2.1 (by assumption) | exact fun z => absurd z.2.2.1 (by assumption) | exact fun z => absurd z.2.2.2 (by assumption) | exact fun z => absurd z.2 (by assumption) | exact fun z => absurd z.2.2 (by assumption)), rfl, hR⟩))
  · have c_4 := fw_b1 c_4
    refine lv_iload_n hx hb dX9_order_9 rfl (lv_at hl 3 rfl) ?_
    refine lv_iconst (v := 1) hx hb dX9_order_10 (by decide) ?_
    refine lv_ldc (own := RX9) (v := 10000000) hx hb hown (hts (.constant RX9 108 (10000000)) (by decide +kernel)) dX9_order_11 ?_
    refine fw_callSi hx hb hml hown hts hE hw [.int p2, .int 1, .int 10000000] [] (c_X9_in l D A y sa f p2 1 10000000) (va_cwS 3 hts gX9_order_X9_in rfl rfl rfl (by decide +kernel) ⟨Nat.le_of_ble_eq_true rfl, Nat.le_of_ble_eq_true rfl⟩) rfl hl.1 rfl (Nat.le_of_ble_eq_true rfl) dX9_order_13 ⟨Nat.le_of_ble_eq_true rfl, Nat.le_of_ble_eq_true rfl⟩ (fun r18 f19 H locs hp20 hw => ?_)
    obtain ⟨hp20a, hp20b⟩ := hp20
    rw [hp20b] at hw
    rw [hp20a]
    refine lv_if_eq (tgt := 34) hx hb dX9_order_16 (by decide) (fun c_21 => ?_) (fun c_21 => ?_)
    · have c_21 := fw_b0 c_21
      refine lv_iconst (v := 0) hx hb dX9_order_34 (by decide) ?_
      refine lv_istore (lv' := [(5, .int 0), (0, .ref (β 0)), (1, .int p0), (2, .int p1), (3, .int p2), (4, .int p3)]) hx hb dX9_order_35 hl (by decide) rfl (fun ls hl => ?_)
      refine lv_aload_n hx hb dX9_order_37 rfl (lv_at hl 1 rfl) ?_
      refine lv_aload_n hx hb dX9_order_38 rfl (lv_at hl 1 rfl) ?_
      refine lv_iload_n hx hb dX9_order_39 rfl (lv_at hl 2 rfl) ?_
      refine fw_callVi hx hb hml hown hts hE hw [.int p0] [.ref (β 0)] (c_X9_isWorker l D A y sa f β μ p0 hR) (cwV 1 hts gX9_order_X9_isWorker rfl rfl rfl (by decide +kernel) ⟨Nat.le_of_ble_eq_true rfl, Nat.le_of_ble_eq_true rfl⟩) (ci := 9) rfl rfl hR.o rfl hl.1 rfl (Nat.le_of_ble_eq_true rfl) dX9_order_40 ⟨Nat.le_of_ble_eq_true rfl, Nat.le_of_ble_eq_true rfl⟩ (fun r22 f23 H locs hp24 hw => ?_)
      obtain ⟨hp24a, hp24b⟩ := hp24
      rw [hp24b] at hw
      have hp24c : r22 = (if inr p0 0 (nI nw - 1) then 1 else 0) := hp24a.trans (by rw [show μ 2 0 = nI nw from hI1])
      rw [hp24c]
      refine lv_if_ne (tgt := 50) hx hb dX9_order_43 (by decide) (fun c_25 => ?_) (fun c_25 => ?_)
      · have c_25 := fw_b1 c_25
        refine lv_iload hx hb dX9_order_50 (lv_at hl 0 rfl) ?_
        refine lv_if_ne (tgt := 59) hx hb dX9_order_52 (by decide) (fun c_26 => absurd c_26 (by decide)) (fun _ => ?_)
        refine lv_iconst (v := 2) hx hb dX9_order_55 (by decide) ?_
        refine lv_goto (tgt := 73) hx hb dX9_order_56 (by decide) ?_
        refine fw_callVi hx hb hml hown hts hE hw [.int 2] [] (c_X9_holds l D A y sa f β μ 2 hR) (cwV 1 hts gX9_order_X9_holds rfl rfl rfl (by decide +kernel) ⟨Nat.le_of_ble_eq_true rfl, Nat.le_of_ble_eq_true rfl⟩) (ci := 9) rfl rfl hR.o rfl hl.1 rfl (Nat.le_of_ble_eq_true rfl) dX9_order_73 ⟨Nat.le_of_ble_eq_true rfl, Nat.le_of_ble_eq_true rfl⟩ (fun r27 f28 H locs hp29 hw => ?_)
        obtain ⟨hp29a, hR⟩ := hp29
        rw [if_neg (by decide)] at hp29a
        rw [hp29a]
        refine lv_if_ne (tgt := 81) hx hb dX9_order_76 (by decide) (fun c_30 => absurd c_30 (by decide)) (fun _ => ?_)
        refine lv_iconst (v := 0) hx hb dX9_order_79 (by decide) ?_
        exact fw_iret hx hb hr hlocks hw (Nat.le_of_ble_eq_true rfl) (Nat.le_of_ble_eq_true rfl) dX9_order_80 (Or.inr (Or.inl (⟨(by first | assumption | exact fun z => absurd z.1 (by assumption) | exact fun z => absurd z.2.1 (by assumption) | exact fun z => absurd z.2.2.1 (by assumption) | exact fun z => absurd z.2.2.2 (by assumption) | exact fun z => absurd z.2 (by assumption) | exact fun z => absurd z.2.2 (by assumption)), (by first | assumption | exact fun z => absurd z.1 (by assumption) | exact fun z => absurd z.2.1 (by assumption) | exact fun z => absurd z.2.2.1 (by assumption) | exact fun z => absurd z.2.2.2 (by assumption) | exact fun z => absurd z.2 (by assumption) | exact fun z => absurd z.2.2 (by assumption)), rfl, hR⟩)))
      · have c_25 := fw_b0 c_25
        refine lv_iconst (v := 1) hx hb dX9_order_46 (by decide) ?_
        refine lv_goto (tgt := 73) hx hb dX9_order_47 (by decide) ?_
        refine fw_callVi hx hb hml hown hts hE hw [.int 1] [] (c_X9_holds l D A y sa f β μ 1 hR) (cwV 1 hts gX9_order_X9_holds rfl rfl rfl (by decide +kernel) ⟨Nat.le_of_ble_eq_true rfl, Nat.le_of_ble_eq_true rfl⟩) (ci := 9) rfl rfl hR.o rfl hl.1 rfl (Nat.le_of_ble_eq_true rfl) dX9_order_73 ⟨Nat.le_of_ble_eq_true rfl, Nat.le_of_ble_eq_true rfl⟩ (fun r31 f32 H locs hp33 hw => ?_)
        obtain ⟨hp33a, hR⟩ := hp33
        rw [if_neg (by decide)] at hp33a
        rw [hp33a]
        refine lv_if_ne (tgt := 81) hx hb dX9_order_76 (by decide) (fun c_34 => absurd c_34 (by decide)) (fun _ => ?_)
        refine lv_iconst (v := 0) hx hb dX9_order_79 (by decide) ?_
        exact fw_iret hx hb hr hlocks hw (Nat.le_of_ble_eq_true rfl) (Nat.le_of_ble_eq_true rfl) dX9_order_80 (Or.inl (⟨(by first | assumption | exact fun z => absurd z.1 (by assumption) | exact fun z => absurd z.2.1 (by assumption) | exact fun z => absurd z.2.2.1 (by assumption) | exact fun z => absurd z.2.2.2 (by assumption) | exact fun z => absurd z.2 (by assumption) | exact fun z => absurd z.2.2 (by assumption)), rfl, hR⟩))
    · have c_21 := fw_b1 c_21
      refine lv_iload hx hb dX9_order_19 (lv_at hl 4 rfl) ?_
      refine lv_iconst (v := 1) hx hb dX9_order_21 (by decide) ?_
      refine lv_ldc (own := RX9) (v := 1000000) hx hb hown (hts (.constant RX9 109 (1000000)) (by decide +kernel)) dX9_order_22 ?_
      refine fw_callSi hx hb hml hown hts hE hw [.int p3, .int 1, .int 1000000] [] (c_X9_in l D A y sa f p3 1 1000000) (va_cwS 3 hts gX9_order_X9_in rfl rfl rfl (by decide +kernel) ⟨Nat.le_of_ble_eq_true rfl, Nat.le_of_ble_eq_true rfl⟩) rfl hl.1 rfl (Nat.le_of_ble_eq_true rfl) dX9_order_24 ⟨Nat.le_of_ble_eq_true rfl, Nat.le_of_ble_eq_true rfl⟩ (fun r35 f36 H locs hp37 hw => ?_)
      obtain ⟨hp37a, hp37b⟩ := hp37
      rw [hp37b] at hw
      rw [hp37a]
      refine lv_if_eq (tgt := 34) hx hb dX9_order_27 (by decide) (fun c_38 => ?_) (fun c_38 => ?_)
      · have c_38 := fw_b0 c_38
        refine lv_iconst (v := 0) hx hb dX9_order_34 (by decide) ?_
        refine lv_istore (lv' := [(5, .int 0), (0, .ref (β 0)), (1, .int p0), (2, .int p1), (3, .int p2), (4, .int p3)]) hx hb dX9_order_35 hl (by decide) rfl (fun ls hl => ?_)
        refine lv_aload_n hx hb dX9_order_37 rfl (lv_at hl 1 rfl) ?_
        refine lv_aload_n hx hb dX9_order_38 rfl (lv_at hl 1 rfl) ?_
        refine lv_iload_n hx hb dX9_order_39 rfl (lv_at hl 2 rfl) ?_
        refine fw_callVi hx hb hml hown hts hE hw [.int p0] [.ref (β 0)] (c_X9_isWorker l D A y sa f β μ p0 hR) (cwV 1 hts gX9_order_X9_isWorker rfl rfl rfl (by decide +kernel) ⟨Nat.le_of_ble_eq_true rfl, Nat.le_of_ble_eq_true rfl⟩) (ci := 9) rfl rfl hR.o rfl hl.1 rfl (Nat.le_of_ble_eq_true rfl) dX9_order_40 ⟨Nat.le_of_ble_eq_true rfl, Nat.le_of_ble_eq_true rfl⟩ (fun r39 f40 H locs hp41 hw => ?_)
        obtain ⟨hp41a, hp41b⟩ := hp41
        rw [hp41b] at hw
        have hp41c : r39 = (if inr p0 0 (nI nw - 1) then 1 else 0) := hp41a.trans (by rw [show μ 2 0 = nI nw from hI1])
        rw [hp41c]
        refine lv_if_ne (tgt := 50) hx hb dX9_order_43 (by decide) (fun c_42 => ?_) (fun c_42 => ?_)
        · have c_42 := fw_b1 c_42
          refine lv_iload hx hb dX9_order_50 (lv_at hl 0 rfl) ?_
          refine lv_if_ne (tgt := 59) hx hb dX9_order_52 (by decide) (fun c_43 => absurd c_43 (by decide)) (fun _ => ?_)
          refine lv_iconst (v := 2) hx hb dX9_order_55 (by decide) ?_
          refine lv_goto (tgt := 73) hx hb dX9_order_56 (by decide) ?_
          refine fw_callVi hx hb hml hown hts hE hw [.int 2] [] (c_X9_holds l D A y sa f β μ 2 hR) (cwV 1 hts gX9_order_X9_holds rfl rfl rfl (by decide +kernel) ⟨Nat.le_of_ble_eq_true rfl, Nat.le_of_ble_eq_true rfl⟩) (ci := 9) rfl rfl hR.o rfl hl.1 rfl (Nat.le_of_ble_eq_true rfl) dX9_order_73 ⟨Nat.le_of_ble_eq_true rfl, Nat.le_of_ble_eq_true rfl⟩ (fun r44 f45 H locs hp46 hw => ?_)
          obtain ⟨hp46a, hR⟩ := hp46
          rw [if_neg (by decide)] at hp46a
          rw [hp46a]
          refine lv_if_ne (tgt := 81) hx hb dX9_order_76 (by decide) (fun c_47 => absurd c_47 (by decide)) (fun _ => ?_)
          refine lv_iconst (v := 0) hx hb dX9_order_79 (by decide) ?_
          exact fw_iret hx hb hr hlocks hw (Nat.le_of_ble_eq_true rfl) (Nat.le_of_ble_eq_true rfl) dX9_order_80 (Or.inr (Or.inl (⟨(by first | assumption | exact fun z => absurd z.1 (by assumption) | exact fun z => absurd z.2.1 (by assumption) | exact fun z => absurd z.2.2.1 (by assumption) | exact fun z => absurd z.2.2.2 (by assumption) | exact fun z => absurd z.2 (by assumption) | exact fun z => absurd z.2.2 (by assumption)), (by first | assumption | exact fun z => absurd z.1 (by assumption) | exact fun z => absurd z.2.1 (by assumption) | exact fun z => absurd z.2.2.1 (by assumption) | exact fun z => absurd z.2.2.2 (by assumption) | exact fun z => absurd z.2 (by assumption) | exact fun z => absurd z.2.2 (by assumption)), rfl, hR⟩)))
        · have c_42 := fw_b0 c_42
          refine lv_iconst (v := 1) hx hb dX9_order_46 (by decide) ?_
          refine lv_goto (tgt := 73) hx hb dX9_order_47 (by decide) ?_
          refine fw_callVi hx hb hml hown hts hE hw [.int 1] [] (c_X9_holds l D A y sa f β μ 1 hR) (cwV 1 hts gX9_order_X9_holds rfl rfl rfl (by decide +kernel) ⟨Nat.le_of_ble_eq_true rfl, Nat.le_of_ble_eq_true rfl⟩) (ci := 9) rfl rfl hR.o rfl hl.1 rfl (Nat.le_of_ble_eq_true rfl) dX9_order_73 ⟨Nat.le_of_ble_eq_true rfl, Nat.le_of_ble_eq_true rfl⟩ (fun r48 f49 H locs hp50 hw => ?_)
          obtain ⟨hp50a, hR⟩ := hp50
          rw [if_neg (by decide)] at hp50a
          rw [hp50a]
          refine lv_if_ne (tgt := 81) hx hb dX9_order_76 (by decide) (fun c_51 => absurd c_51 (by decide)) (fun _ => ?_)
          refine lv_iconst (v := 0) hx hb dX9_order_79 (by decide) ?_
          exact fw_iret hx hb hr hlocks hw (Nat.le_of_ble_eq_true rfl) (Nat.le_of_ble_eq_true rfl) dX9_order_80 (Or.inl (⟨(by first | assumption | exact fun z => absurd z.1 (by assumption) | exact fun z => absurd z.2.1 (by assumption) | exact fun z => absurd z.2.2.1 (by assumption) | exact fun z => absurd z.2.2.2 (by assumption) | exact fun z => absurd z.2 (by assumption) | exact fun z => absurd z.2.2 (by assumption)), rfl, hR⟩))
      · have c_38 := fw_b1 c_38
        refine lv_iconst (v := 1) hx hb dX9_order_30 (by decide) ?_
        refine lv_goto (tgt := 35) hx hb dX9_order_31 (by decide) ?_
        refine lv_istore (lv' := [(5, .int 1), (0, .ref (β 0)), (1, .int p0), (2, .int p1), (3, .int p2), (4, .int p3)]) hx hb dX9_order_35 hl (by decide) rfl (fun ls hl => ?_)
        refine lv_aload_n hx hb dX9_order_37 rfl (lv_at hl 1 rfl) ?_
        refine lv_aload_n hx hb dX9_order_38 rfl (lv_at hl 1 rfl) ?_
        refine lv_iload_n hx hb dX9_order_39 rfl (lv_at hl 2 rfl) ?_
        refine fw_callVi hx hb hml hown hts hE hw [.int p0] [.ref (β 0)] (c_X9_isWorker l D A y sa f β μ p0 hR) (cwV 1 hts gX9_order_X9_isWorker rfl rfl rfl (by decide +kernel) ⟨Nat.le_of_ble_eq_true rfl, Nat.le_of_ble_eq_true rfl⟩) (ci := 9) rfl rfl hR.o rfl hl.1 rfl (Nat.le_of_ble_eq_true rfl) dX9_order_40 ⟨Nat.le_of_ble_eq_true rfl, Nat.le_of_ble_eq_true rfl⟩ (fun r52 f53 H locs hp54 hw => ?_)
        obtain ⟨hp54a, hp54b⟩ := hp54
        rw [hp54b] at hw
        have hp54c : r52 = (if inr p0 0 (nI nw - 1) then 1 else 0) := hp54a.trans (by rw [show μ 2 0 = nI nw from hI1])
        rw [hp54c]
        refine lv_if_ne (tgt := 50) hx hb dX9_order_43 (by decide) (fun c_55 => ?_) (fun c_55 => ?_)
        · have c_55 := fw_b1 c_55
          refine lv_iload hx hb dX9_order_50 (lv_at hl 0 rfl) ?_
          refine lv_if_ne (tgt := 59) hx hb dX9_order_52 (by decide) (fun _ => ?_) (fun c_56 => absurd c_56 (by decide))
          refine lv_aload_n hx hb dX9_order_59 rfl (lv_at hl 1 rfl) ?_
          refine fw_get hx hb hts hown hE.1.1 hw (ci := 9) (fs := [.int (μ 0 0), .int (μ 1 0), .int (μ 2 0), .ref (β 3), .ref (β 4), .ref (β 5), .ref (β 6), .ref (β 7), .ref (β 8), .ref (β 9), .ref (β 10), .ref (β 11), .ref (β 12), .int (μ 13 0), .ref (β 14), .ref (β 15), .ref (β 16), .ref (β 17), .int (μ 18 0), .ref (β 19), .ref (β 20), .int (μ 21 0), .ref (β 22), .ref (β 23), .ref (β 24)]) (v := .int (μ 13 0)) hR.o iX9_order_9 rfl 13 (by decide) rfl (by decide +kernel) dX9_order_60 ?_
          rw [hI5]
          refine lv_bipush (v := 20) hx hb dX9_order_63 (by decide) ?_
          refine lv_icmp_ne (tgt := 72) hx hb dX9_order_65 (by decide) (fun c_57 => ?_) (fun c_57 => ?_)
          · refine lv_iconst (v := 0) hx hb dX9_order_72 (by decide) ?_
            refine fw_callVi hx hb hml hown hts hE hw [.int 0] [] (c_X9_holds l D A y sa f β μ 0 hR) (cwV 1 hts gX9_order_X9_holds rfl rfl rfl (by decide +kernel) ⟨Nat.le_of_ble_eq_true rfl, Nat.le_of_ble_eq_true rfl⟩) (ci := 9) rfl rfl hR.o rfl hl.1 rfl (Nat.le_of_ble_eq_true rfl) dX9_order_73 ⟨Nat.le_of_ble_eq_true rfl, Nat.le_of_ble_eq_true rfl⟩ (fun r58 f59 H locs hp60 hw => ?_)
            obtain ⟨hp60a, hR⟩ := hp60
            rw [if_pos rfl] at hp60a
            rw [hp60a]
            refine lv_if_ne (tgt := 81) hx hb dX9_order_76 (by decide) (fun _ => ?_) (fun c_61 => absurd c_61 (by decide))
            have hn20 : no < 20 := by rcases Nat.lt_or_ge no 20 with q | q; exact q; exact absurd (by rw [show no = 20 by omega]; rfl) c_57
            obtain ⟨wv, hwv, rfl⟩ := inr_w (n := nw) (by omega) c_55
            refine lv_aload_n hx hb dX9_order_81 rfl (lv_at hl 1 rfl) ?_
            refine fw_get hx hb hts hown hE.1.1 hw (ci := 9) (fs := [.int 0, .int (μ 1 0), .int (μ 2 0), .ref (β 3), .ref (β 4), .ref (β 5), .ref (β 6), .ref (β 7), .ref (β 8), .ref (β 9), .ref (β 10), .ref (β 11), .ref (β 12), .int (μ 13 0), .ref (β 14), .ref (β 15), .ref (β 16), .ref (β 17), .int (μ 18 0), .ref (β 19), .ref (β 20), .int (μ 21 0), .ref (β 22), .ref (β 23), .ref (β 24)]) (v := .ref (β 14)) hR.o iX9_order_9 rfl 14 (by decide) rfl (by decide +kernel) dX9_order_82 ?_
            refine lv_aload_n hx hb dX9_order_85 rfl (lv_at hl 1 rfl) ?_
            refine fw_get hx hb hts hown hE.1.1 hw (ci := 9) (fs := [.int 0, .int (μ 1 0), .int (μ 2 0), .ref (β 3), .ref (β 4), .ref (β 5), .ref (β 6), .ref (β 7), .ref (β 8), .ref (β 9), .ref (β 10), .ref (β 11), .ref (β 12), .int (μ 13 0), .ref (β 14), .ref (β 15), .ref (β 16), .ref (β 17), .int (μ 18 0), .ref (β 19), .ref (β 20), .int (μ 21 0), .ref (β 22), .ref (β 23), .ref (β 24)]) (v := .int (μ 13 0)) hR.o iX9_order_9 rfl 13 (by decide) rfl (by decide +kernel) dX9_order_86 ?_
            rw [hI5]
            refine lv_iload_n hx hb dX9_order_89 rfl (lv_at hl 2 rfl) ?_
            refine fw_iast hx hb hE.1.1 hw (g := (μ 14)) hR.a14 0 rfl (vp_in_nI (by omega) (by decide)) dX9_order_90 (fun H locs hw => ?_)
            rw [nI_clamp (n := no) (by omega)] at hw
            obtain ⟨f62, ef62⟩ : ∃ z, z = fw_up f59 (β 14) (.inl (y 0, 20, .inl (va_up (μ 14) no (nI wv)))) := ⟨_, rfl⟩
            have hw : fw_S D A s.heap f62 H locs := by rw [ef62]; exact hw
            have hR : Rm y (up2 (up2 μ 0 0 0) 14 no (nI wv)) β f62 := by rw [ef62]; exact hR.s14 no (nI wv)
            refine lv_aload_n hx hb dX9_order_91 rfl (lv_at hl 1 rfl) ?_
            refine fw_get hx hb hts hown hE.1.1 hw (ci := 9) (fs := [.int 0, .int (μ 1 0), .int (μ 2 0), .ref (β 3), .ref (β 4), .ref (β 5), .ref (β 6), .ref (β 7), .ref (β 8), .ref (β 9), .ref (β 10), .ref (β 11), .ref (β 12), .int (μ 13 0), .ref (β 14), .ref (β 15), .ref (β 16), .ref (β 17), .int (μ 18 0), .ref (β 19), .ref (β 20), .int (μ 21 0), .ref (β 22), .ref (β 23), .ref (β 24)]) (v := .ref (β 15)) hR.o iX9_order_9 rfl 15 (by decide) rfl (by decide +kernel) dX9_order_92 ?_
            refine lv_aload_n hx hb dX9_order_95 rfl (lv_at hl 1 rfl) ?_
            refine fw_get hx hb hts hown hE.1.1 hw (ci := 9) (fs := [.int 0, .int (μ 1 0), .int (μ 2 0), .ref (β 3), .ref (β 4), .ref (β 5), .ref (β 6), .ref (β 7), .ref (β 8), .ref (β 9), .ref (β 10), .ref (β 11), .ref (β 12), .int (μ 13 0), .ref (β 14), .ref (β 15), .ref (β 16), .ref (β 17), .int (μ 18 0), .ref (β 19), .ref (β 20), .int (μ 21 0), .ref (β 22), .ref (β 23), .ref (β 24)]) (v := .int (μ 13 0)) hR.o iX9_order_9 rfl 13 (by decide) rfl (by decide +kernel) dX9_order_96 ?_
            rw [hI5]
            refine lv_iload_n hx hb dX9_order_99 rfl (lv_at hl 3 rfl) ?_
            refine fw_iast hx hb hE.1.1 hw (g := (μ 15)) hR.a15 0 rfl (vp_in_nI (by omega) (by decide)) dX9_order_100 (fun H locs hw => ?_)
            rw [nI_clamp (n := no) (by omega)] at hw
            obtain ⟨f63, ef63⟩ : ∃ z, z = fw_up f62 (β 15) (.inl (y 0, 20, .inl (va_up (μ 15) no p1))) := ⟨_, rfl⟩
            have hw : fw_S D A s.heap f63 H locs := by rw [ef63]; exact hw
            have hR : Rm y (up2 (up2 (up2 μ 0 0 0) 14 no (nI wv)) 15 no p1) β f63 := by rw [ef63]; exact hR.s15 no p1
            refine lv_aload_n hx hb dX9_order_101 rfl (lv_at hl 1 rfl) ?_
            refine fw_get hx hb hts hown hE.1.1 hw (ci := 9) (fs := [.int 0, .int (μ 1 0), .int (μ 2 0), .ref (β 3), .ref (β 4), .ref (β 5), .ref (β 6), .ref (β 7), .ref (β 8), .ref (β 9), .ref (β 10), .ref (β 11), .ref (β 12), .int (μ 13 0), .ref (β 14), .ref (β 15), .ref (β 16), .ref (β 17), .int (μ 18 0), .ref (β 19), .ref (β 20), .int (μ 21 0), .ref (β 22), .ref (β 23), .ref (β 24)]) (v := .ref (β 16)) hR.o iX9_order_9 rfl 16 (by decide) rfl (by decide +kernel) dX9_order_102 ?_
            refine lv_aload_n hx hb dX9_order_105 rfl (lv_at hl 1 rfl) ?_
            refine fw_get hx hb hts hown hE.1.1 hw (ci := 9) (fs := [.int 0, .int (μ 1 0), .int (μ 2 0), .ref (β 3), .ref (β 4), .ref (β 5), .ref (β 6), .ref (β 7), .ref (β 8), .ref (β 9), .ref (β 10), .ref (β 11), .ref (β 12), .int (μ 13 0), .ref (β 14), .ref (β 15), .ref (β 16), .ref (β 17), .int (μ 18 0), .ref (β 19), .ref (β 20), .int (μ 21 0), .ref (β 22), .ref (β 23), .ref (β 24)]) (v := .int (μ 13 0)) hR.o iX9_order_9 rfl 13 (by decide) rfl (by decide +kernel) dX9_order_106 ?_
            rw [hI5]
            refine lv_iload_n hx hb dX9_order_109 rfl (lv_at hl 4 rfl) ?_
            refine fw_iast hx hb hE.1.1 hw (g := (μ 16)) hR.a16 0 rfl (vp_in_nI (by omega) (by decide)) dX9_order_110 (fun H locs hw => ?_)
            rw [nI_clamp (n := no) (by omega)] at hw
            obtain ⟨f64, ef64⟩ : ∃ z, z = fw_up f63 (β 16) (.inl (y 0, 20, .inl (va_up (μ 16) no p2))) := ⟨_, rfl⟩
            have hw : fw_S D A s.heap f64 H locs := by rw [ef64]; exact hw
            have hR : Rm y (up2 (up2 (up2 (up2 μ 0 0 0) 14 no (nI wv)) 15 no p1) 16 no p2) β f64 := by rw [ef64]; exact hR.s16 no p2
            refine lv_aload_n hx hb dX9_order_111 rfl (lv_at hl 1 rfl) ?_
            refine fw_get hx hb hts hown hE.1.1 hw (ci := 9) (fs := [.int 0, .int (μ 1 0), .int (μ 2 0), .ref (β 3), .ref (β 4), .ref (β 5), .ref (β 6), .ref (β 7), .ref (β 8), .ref (β 9), .ref (β 10), .ref (β 11), .ref (β 12), .int (μ 13 0), .ref (β 14), .ref (β 15), .ref (β 16), .ref (β 17), .int (μ 18 0), .ref (β 19), .ref (β 20), .int (μ 21 0), .ref (β 22), .ref (β 23), .ref (β 24)]) (v := .ref (β 17)) hR.o iX9_order_9 rfl 17 (by decide) rfl (by decide +kernel) dX9_order_112 ?_
            refine lv_aload_n hx hb dX9_order_115 rfl (lv_at hl 1 rfl) ?_
            refine fw_get hx hb hts hown hE.1.1 hw (ci := 9) (fs := [.int 0, .int (μ 1 0), .int (μ 2 0), .ref (β 3), .ref (β 4), .ref (β 5), .ref (β 6), .ref (β 7), .ref (β 8), .ref (β 9), .ref (β 10), .ref (β 11), .ref (β 12), .int (μ 13 0), .ref (β 14), .ref (β 15), .ref (β 16), .ref (β 17), .int (μ 18 0), .ref (β 19), .ref (β 20), .int (μ 21 0), .ref (β 22), .ref (β 23), .ref (β 24)]) (v := .int (μ 13 0)) hR.o iX9_order_9 rfl 13 (by decide) rfl (by decide +kernel) dX9_order_116 ?_
            rw [hI5]
            refine lv_iload hx hb dX9_order_119 (lv_at hl 5 rfl) ?_
            refine fw_iast hx hb hE.1.1 hw (g := (μ 17)) hR.a17 0 rfl (vp_in_nI (by omega) (by decide)) dX9_order_121 (fun H locs hw => ?_)
            rw [nI_clamp (n := no) (by omega)] at hw
            obtain ⟨f65, ef65⟩ : ∃ z, z = fw_up f64 (β 17) (.inl (y 0, 20, .inl (va_up (μ 17) no p3))) := ⟨_, rfl⟩
            have hw : fw_S D A s.heap f65 H locs := by rw [ef65]; exact hw
            have hR : Rm y (up2 (up2 (up2 (up2 (up2 μ 0 0 0) 14 no (nI wv)) 15 no p1) 16 no p2) 17 no p3) β f65 := by rw [ef65]; exact hR.s17 no p3
            refine lv_aload_n hx hb dX9_order_122 rfl (lv_at hl 1 rfl) ?_
            refine lv_dup hx hb dX9_order_123 rfl ?_
            refine fw_get hx hb hts hown hE.1.1 hw (ci := 9) (fs := [.int 0, .int (μ 1 0), .int (μ 2 0), .ref (β 3), .ref (β 4), .ref (β 5), .ref (β 6), .ref (β 7), .ref (β 8), .ref (β 9), .ref (β 10), .ref (β 11), .ref (β 12), .int (μ 13 0), .ref (β 14), .ref (β 15), .ref (β 16), .ref (β 17), .int (μ 18 0), .ref (β 19), .ref (β 20), .int (μ 21 0), .ref (β 22), .ref (β 23), .ref (β 24)]) (v := .int (μ 13 0)) hR.o iX9_order_9 rfl 13 (by decide) rfl (by decide +kernel) dX9_order_124 ?_
            rw [hI5]
            refine lv_iconst (v := 1) hx hb dX9_order_127 (by decide) ?_
            refine lv_iadd hx hb dX9_order_128 ?_
            rw [show (((nI no) + 1) : Int32) = (nI (no + 1)) from nI_add (no) (1)]
            refine fw_put hx hb hts hown hE.1.1 hw (ci := 9) (fs := [.int 0, .int (μ 1 0), .int (μ 2 0), .ref (β 3), .ref (β 4), .ref (β 5), .ref (β 6), .ref (β 7), .ref (β 8), .ref (β 9), .ref (β 10), .ref (β 11), .ref (β 12), .int (μ 13 0), .ref (β 14), .ref (β 15), .ref (β 16), .ref (β 17), .int (μ 18 0), .ref (β 19), .ref (β 20), .int (μ 21 0), .ref (β 22), .ref (β 23), .ref (β 24)]) (v := .int (nI (no + 1))) hR.o iX9_order_9 tyX9 tyX9_ok nmX9 rfl 13 (by decide) rfl rfl rfl (Nat.le_of_ble_eq_true rfl) (by decide +kernel) dX9_order_129 (fun H locs hw => ?_)
            obtain ⟨f66, ef66⟩ : ∃ z, z = fw_up f65 (β 0) (.inr (9, [.int 0, .int (μ 1 0), .int (μ 2 0), .ref (β 3), .ref (β 4), .ref (β 5), .ref (β 6), .ref (β 7), .ref (β 8), .ref (β 9), .ref (β 10), .ref (β 11), .ref (β 12), .int (nI (no + 1)), .ref (β 14), .ref (β 15), .ref (β 16), .ref (β 17), .int (μ 18 0), .ref (β 19), .ref (β 20), .int (μ 21 0), .ref (β 22), .ref (β 23), .ref (β 24)])) := ⟨_, rfl⟩
            have hw : fw_S D A s.heap f66 H locs := by rw [ef66]; exact hw
            have hR : Rm y (up2 (up2 (up2 (up2 (up2 (up2 μ 0 0 0) 14 no (nI wv)) 15 no p1) 16 no p2) 17 no p3) 13 0 (nI (no + 1))) β f66 := by rw [ef66]; exact hR.p13 (nI (no + 1))
            refine lv_aload_n hx hb dX9_order_132 rfl (lv_at hl 1 rfl) ?_
            refine fw_get hx hb hts hown hE.1.1 hw (ci := 9) (fs := [.int 0, .int (μ 1 0), .int (μ 2 0), .ref (β 3), .ref (β 4), .ref (β 5), .ref (β 6), .ref (β 7), .ref (β 8), .ref (β 9), .ref (β 10), .ref (β 11), .ref (β 12), .int (nI (no + 1)), .ref (β 14), .ref (β 15), .ref (β 16), .ref (β 17), .int (μ 18 0), .ref (β 19), .ref (β 20), .int (μ 21 0), .ref (β 22), .ref (β 23), .ref (β 24)]) (v := .int (nI (no + 1))) hR.o iX9_order_9 rfl 13 (by decide) rfl (by decide +kernel) dX9_order_133 ?_
            refine lv_iconst (v := 1) hx hb dX9_order_136 (by decide) ?_
            refine lv_isub hx hb dX9_order_137 ?_
            exact fw_iret hx hb hr hlocks hw (Nat.le_of_ble_eq_true rfl) (Nat.le_of_ble_eq_true rfl) dX9_order_138 (Or.inr (Or.inr (Or.inr (⟨wv, hwv, rfl, by assumption, by assumption, by assumption, by assumption, nI_pred _, hR⟩))))
          · refine lv_iconst (v := 3) hx hb dX9_order_68 (by decide) ?_
            refine lv_goto (tgt := 73) hx hb dX9_order_69 (by decide) ?_
            refine fw_callVi hx hb hml hown hts hE hw [.int 3] [] (c_X9_holds l D A y sa f β μ 3 hR) (cwV 1 hts gX9_order_X9_holds rfl rfl rfl (by decide +kernel) ⟨Nat.le_of_ble_eq_true rfl, Nat.le_of_ble_eq_true rfl⟩) (ci := 9) rfl rfl hR.o rfl hl.1 rfl (Nat.le_of_ble_eq_true rfl) dX9_order_73 ⟨Nat.le_of_ble_eq_true rfl, Nat.le_of_ble_eq_true rfl⟩ (fun r67 f68 H locs hp69 hw => ?_)
            obtain ⟨hp69a, hR⟩ := hp69
            rw [if_neg (by decide)] at hp69a
            rw [hp69a]
            refine lv_if_ne (tgt := 81) hx hb dX9_order_76 (by decide) (fun c_70 => absurd c_70 (by decide)) (fun _ => ?_)
            refine lv_iconst (v := 0) hx hb dX9_order_79 (by decide) ?_
            exact fw_iret hx hb hr hlocks hw (Nat.le_of_ble_eq_true rfl) (Nat.le_of_ble_eq_true rfl) dX9_order_80 (Or.inr (Or.inr (Or.inl (⟨(by first | assumption | exact fun z => absurd z.1 (by assumption) | exact fun z => absurd z.2.1 (by assumption) | exact fun z => absurd z.2.2.1 (by assumption) | exact fun z => absurd z.2.2.2 (by assumption) | exact fun z => absurd z.2 (by assumption) | exact fun z => absurd z.2.2 (by assumption)), (by first | assumption | exact fun z => absurd z.1 (by assumption) | exact fun z => absurd z.2.1 (by assumption) | exact fun z => absurd z.2.2.1 (by assumption) | exact fun z => absurd z.2.2.2 (by assumption) | exact fun z => absurd z.2 (by assumption) | exact fun z => absurd z.2.2 (by assumption)), (by first | assumption | exact fun z => absurd z.1 (by assumption) | exact fun z => absurd z.2.1 (by assumption) | exact fun z => absurd z.2.2.1 (by assumption) | exact fun z => absurd z.2.2.2 (by assumption) | exact fun z => absurd z.2 (by assumption) | exact fun z => absurd z.2.2 (by assumption)), (by first | assumption | exact fun z => absurd z.1 (by assumption) | exact fun z => absurd z.2.1 (by assumption) | exact fun z => absurd z.2.2.1 (by assumption) | exact fun z => absurd z.2.2.2 (by assumption) | exact fun z => absurd z.2 (by assumption) | exact fun z => absurd z.2.2 (by assumption)), (by first | assumption | exact fun z => absurd z.1 (by assumption) | exact fun z => absurd z.2.1 (by assumption) | exact fun z => absurd z.2.2.1 (by assumption) | exact fun z => absurd z.2.2.2 (by assumption) | exact fun z => absurd z.2 (by assumption) | exact fun z => absurd z.2.2 (by assumption)), rfl, hR⟩))))
        · have c_55 := fw_b0 c_55
          refine lv_iconst (v := 1) hx hb dX9_order_46 (by decide) ?_
          refine lv_goto (tgt := 73) hx hb dX9_order_47 (by decide) ?_
          refine fw_callVi hx hb hml hown hts hE hw [.int 1] [] (c_X9_holds l D A y sa f β μ 1 hR) (cwV 1 hts gX9_order_X9_holds rfl rfl rfl (by decide +kernel) ⟨Nat.le_of_ble_eq_true rfl, Nat.le_of_ble_eq_true rfl⟩) (ci := 9) rfl rfl hR.o rfl hl.1 rfl (Nat.le_of_ble_eq_true rfl) dX9_order_73 ⟨Nat.le_of_ble_eq_true rfl, Nat.le_of_ble_eq_true rfl⟩ (fun r71 f72 H locs hp73 hw => ?_)
          obtain ⟨hp73a, hR⟩ := hp73
          rw [if_neg (by decide)] at hp73a
          rw [hp73a]
          refine lv_if_ne (tgt := 81) hx hb dX9_order_76 (by decide) (fun c_74 => absurd c_74 (by decide)) (fun _ => ?_)
          refine lv_iconst (v := 0) hx hb dX9_order_79 (by decide) ?_
          exact fw_iret hx hb hr hlocks hw (Nat.le_of_ble_eq_true rfl) (Nat.le_of_ble_eq_true rfl) dX9_order_80 (Or.inl (⟨(by first | assumption | exact fun z => absurd z.1 (by assumption) | exact fun z => absurd z.2.1 (by assumption) | exact fun z => absurd z.2.2.1 (by assumption) | exact fun z => absurd z.2.2.2 (by assumption) | exact fun z => absurd z.2 (by assumption) | exact fun z => absurd z.2.2 (by assumption)), rfl, hR⟩))

theorem iX9_left_9 : ∀ w ∈ wsX90, w ∈ wsX9_left := by decide +kernel
set_option maxHeartbeats 4000000 in
set_option maxRecDepth 100000 in
/-- the reference: left -/
theorem c_X9_left (l : Launch) (D : va_G) (A : Nat → Prop) (y : Nat → ClassId) (sa : Nat → Nat) (f : fw_F) (β : Nat → Nat) (μ : mS) (p0 : Int32) (nw wk no nt : Nat) (hI : Im μ nw wk no nt) (hR : Rm y μ β f) : Met l yX9_left wsX9_left ({ frames := 1, cells := 0, slots := 0, locals := 22 } : Room) (cPc D A y sa f [.ref (β 0), .int p0]) (cQi D A (fun r f1 => (¬ inr p0 0 (nI no - 1) ∧ r = 0 ∧ Rm y (up2 μ 0 0 1) β f1) ∨ (∃ ov, ov < no ∧ p0 = nI ov ∧ r = μ 16 ov ∧ Rm y (up2 μ 0 0 0) β f1))) 0 0 A := by
  refine fw_met (by decide) rfl [.ref (β 0), .int p0] (Nat.le_of_ble_eq_true rfl) ?_
  intro p e s m args below meth c ls I hin hE hw hl
  obtain ⟨hx, hb, hr, hts, hown, hlocks, hml⟩ := I
  have hown : s.vm.findClass RX9 = some m.cls := hown
  have hl : lv_has ls 2 [(0, .ref (β 0)), (1, .int p0)] := hl
  obtain ⟨hI1, hI2, hI3, hI4, hI5, hI6, hI7, hI8, hI9, hI10, hI11, hI12, hI13⟩ := id hI
  refine lv_aload_n hx hb dX9_left_0 rfl (lv_at hl 0 rfl) ?_
  refine lv_iload_n hx hb dX9_left_1 rfl (lv_at hl 1 rfl) ?_
  refine lv_iconst (v := 0) hx hb dX9_left_2 (by decide) ?_
  refine lv_aload_n hx hb dX9_left_3 rfl (lv_at hl 0 rfl) ?_
  refine fw_get hx hb hts hown hE.1.1 hw (ci := 9) (fs := [.int (μ 0 0), .int (μ 1 0), .int (μ 2 0), .ref (β 3), .ref (β 4), .ref (β 5), .ref (β 6), .ref (β 7), .ref (β 8), .ref (β 9), .ref (β 10), .ref (β 11), .ref (β 12), .int (μ 13 0), .ref (β 14), .ref (β 15), .ref (β 16), .ref (β 17), .int (μ 18 0), .ref (β 19), .ref (β 20), .int (μ 21 0), .ref (β 22), .ref (β 23), .ref (β 24)]) (v := .int (μ 13 0)) hR.o iX9_left_9 rfl 13 (by decide) rfl (by decide +kernel) dX9_left_4 ?_
  rw [hI5]
  refine lv_iconst (v := 1) hx hb dX9_left_7 (by decide) ?_
  refine lv_isub hx hb dX9_left_8 ?_
  refine fw_callSi hx hb hml hown hts hE hw [.int p0, .int 0, .int ((nI no) - 1)] [.ref (β 0)] (c_X9_in l D A y sa f p0 0 ((nI no) - 1)) (va_cwS 3 hts gX9_left_X9_in rfl rfl rfl (by decide +kernel) ⟨Nat.le_of_ble_eq_true rfl, Nat.le_of_ble_eq_true rfl⟩) rfl hl.1 rfl (Nat.le_of_ble_eq_true rfl) dX9_left_9 ⟨Nat.le_of_ble_eq_true rfl, Nat.le_of_ble_eq_true rfl⟩ (fun r1 f2 H locs hp3 hw => ?_)
  obtain ⟨hp3a, hp3b⟩ := hp3
  rw [hp3b] at hw
  rw [hp3a]
  refine lv_if_eq (tgt := 19) hx hb dX9_left_12 (by decide) (fun c_4 => ?_) (fun c_4 => ?_)
  · have c_4 := fw_b0 c_4
    refine lv_iconst (v := 1) hx hb dX9_left_19 (by decide) ?_
    refine fw_callVi hx hb hml hown hts hE hw [.int 1] [] (c_X9_holds l D A y sa f β μ 1 hR) (cwV 1 hts gX9_left_X9_holds rfl rfl rfl (by decide +kernel) ⟨Nat.le_of_ble_eq_true rfl, Nat.le_of_ble_eq_true rfl⟩) (ci := 9) rfl rfl hR.o rfl hl.1 rfl (Nat.le_of_ble_eq_true rfl) dX9_left_20 ⟨Nat.le_of_ble_eq_true rfl, Nat.le_of_ble_eq_true rfl⟩ (fun r5 f6 H locs hp7 hw => ?_)
    obtain ⟨hp7a, hR⟩ := hp7
    rw [if_neg (by decide)] at hp7a
    rw [hp7a]
    refine lv_if_eq (tgt := 35) hx hb dX9_left_23 (by decide) (fun _ => ?_) (fun c_8 => absurd c_8 (by decide))
    refine lv_iconst (v := 0) hx hb dX9_left_35 (by decide) ?_
    exact fw_iret hx hb hr hlocks hw (Nat.le_of_ble_eq_true rfl) (Nat.le_of_ble_eq_true rfl) dX9_left_36 (Or.inl (⟨(by first | assumption | exact fun z => absurd z.1 (by assumption) | exact fun z => absurd z.2.1 (by assumption) | exact fun z => absurd z.2.2.1 (by assumption) | exact fun z => absurd z.2.2.2 (by assumption) | exact fun z => absurd z.2 (by assumption) | exact fun z => absurd z.2.2 (by assumption)), rfl, hR⟩))
  · have c_4 := fw_b1 c_4
    refine lv_iconst (v := 0) hx hb dX9_left_15 (by decide) ?_
    refine lv_goto (tgt := 20) hx hb dX9_left_16 (by decide) ?_
    refine fw_callVi hx hb hml hown hts hE hw [.int 0] [] (c_X9_holds l D A y sa f β μ 0 hR) (cwV 1 hts gX9_left_X9_holds rfl rfl rfl (by decide +kernel) ⟨Nat.le_of_ble_eq_true rfl, Nat.le_of_ble_eq_true rfl⟩) (ci := 9) rfl rfl hR.o rfl hl.1 rfl (Nat.le_of_ble_eq_true rfl) dX9_left_20 ⟨Nat.le_of_ble_eq_true rfl, Nat.le_of_ble_eq_true rfl⟩ (fun r9 f10 H locs hp11 hw => ?_)
    obtain ⟨hp11a, hR⟩ := hp11
    rw [if_pos rfl] at hp11a
    rw [hp11a]
    refine lv_if_eq (tgt := 35) hx hb dX9_left_23 (by decide) (fun c_12 => absurd c_12 (by decide)) (fun _ => ?_)
    obtain ⟨ov, hov, rfl⟩ := inr_w (n := no) (by omega) c_4
    refine lv_aload_n hx hb dX9_left_26 rfl (lv_at hl 0 rfl) ?_
    refine fw_get hx hb hts hown hE.1.1 hw (ci := 9) (fs := [.int 0, .int (μ 1 0), .int (μ 2 0), .ref (β 3), .ref (β 4), .ref (β 5), .ref (β 6), .ref (β 7), .ref (β 8), .ref (β 9), .ref (β 10), .ref (β 11), .ref (β 12), .int (μ 13 0), .ref (β 14), .ref (β 15), .ref (β 16), .ref (β 17), .int (μ 18 0), .ref (β 19), .ref (β 20), .int (μ 21 0), .ref (β 22), .ref (β 23), .ref (β 24)]) (v := .ref (β 16)) hR.o iX9_left_9 rfl 16 (by decide) rfl (by decide +kernel) dX9_left_27 ?_
    refine lv_iload_n hx hb dX9_left_30 rfl (lv_at hl 1 rfl) ?_
    refine fw_iald hx hb hE.1.1 hw (g := (μ 16)) hR.a16 0 rfl (vp_in_nI (by omega) (by decide)) dX9_left_31 ?_
    rw [nI_clamp (n := ov) (by omega)]
    refine lv_goto (tgt := 36) hx hb dX9_left_32 (by decide) ?_
    exact fw_iret hx hb hr hlocks hw (Nat.le_of_ble_eq_true rfl) (Nat.le_of_ble_eq_true rfl) dX9_left_36 (Or.inr (⟨ov, hov, rfl, rfl, hR⟩))

theorem iX9_fill_9 : ∀ w ∈ wsX90, w ∈ wsX9_fill := by decide +kernel
set_option maxHeartbeats 4000000 in
set_option maxRecDepth 100000 in
/-- the reference: fill -/
theorem c_X9_fill (l : Launch) (D : va_G) (A : Nat → Prop) (y : Nat → ClassId) (sa : Nat → Nat) (f : fw_F) (β : Nat → Nat) (μ : mS) (p0 p1 : Int32) (nw wk no nt : Nat) (hI : Im μ nw wk no nt) (hR : Rm y μ β f) : Met l yX9_fill wsX9_fill ({ frames := 2, cells := 0, slots := 0, locals := 42 } : Room) (cPc D A y sa f [.ref (β 0), .int p0, .int p1]) (cQi D A (fun r f1 => (¬ inr p0 0 2 ∧ r = 0 ∧ Rm y (up2 μ 0 0 1) β f1) ∨ (inr p0 0 2 ∧ ¬ inr p1 1 10000000 ∧ r = 0 ∧ Rm y (up2 μ 0 0 2) β f1) ∨ (inr p0 0 2 ∧ inr p1 1 10000000 ∧ nI nt = 40 ∧ r = 0 ∧ Rm y (up2 μ 0 0 3) β f1) ∨ (∃ ev, ev ≤ 2 ∧ p0 = nI ev ∧ inr p1 1 10000000 ∧ ¬ nI nt = 40 ∧ r = nI nt ∧ Rm y (up2 (up2 (up2 (up2 (up2 (up2 μ 0 0 0) 20 ev (μ 20 ev - (lst p1 (μ 20 ev)))) 19 ev (μ 19 ev + (p1 - (lst p1 (μ 20 ev))))) 22 nt p0) 23 nt p1) 21 0 (nI (nt + 1))) β f1))) 0 0 A := by
  refine fw_met (by decide) rfl [.ref (β 0), .int p0, .int p1] (Nat.le_of_ble_eq_true rfl) ?_
  intro p e s m args below meth c ls I hin hE hw hl
  obtain ⟨hx, hb, hr, hts, hown, hlocks, hml⟩ := I
  have hown : s.vm.findClass RX9 = some m.cls := hown
  have hl : lv_has ls 4 [(0, .ref (β 0)), (1, .int p0), (2, .int p1)] := hl
  obtain ⟨hI1, hI2, hI3, hI4, hI5, hI6, hI7, hI8, hI9, hI10, hI11, hI12, hI13⟩ := id hI
  refine lv_aload_n hx hb dX9_fill_0 rfl (lv_at hl 0 rfl) ?_
  refine lv_iload_n hx hb dX9_fill_1 rfl (lv_at hl 1 rfl) ?_
  refine fw_callSi hx hb hml hown hts hE hw [.int p0] [.ref (β 0)] (c_X9_isEmployer l D A y sa f p0) (va_cwS 1 hts gX9_fill_X9_isEmployer rfl rfl rfl (by decide +kernel) ⟨Nat.le_of_ble_eq_true rfl, Nat.le_of_ble_eq_true rfl⟩) rfl hl.1 rfl (Nat.le_of_ble_eq_true rfl) dX9_fill_2 ⟨Nat.le_of_ble_eq_true rfl, Nat.le_of_ble_eq_true rfl⟩ (fun r1 f2 H locs hp3 hw => ?_)
  obtain ⟨hp3a, hp3b⟩ := hp3
  rw [hp3b] at hw
  rw [hp3a]
  refine lv_if_ne (tgt := 12) hx hb dX9_fill_5 (by decide) (fun c_4 => ?_) (fun c_4 => ?_)
  · have c_4 := fw_b1 c_4
    refine lv_iload_n hx hb dX9_fill_12 rfl (lv_at hl 2 rfl) ?_
    refine lv_iconst (v := 1) hx hb dX9_fill_13 (by decide) ?_
    refine lv_ldc (own := RX9) (v := 10000000) hx hb hown (hts (.constant RX9 108 (10000000)) (by decide +kernel)) dX9_fill_14 ?_
    refine fw_callSi hx hb hml hown hts hE hw [.int p1, .int 1, .int 10000000] [.ref (β 0)] (c_X9_in l D A y sa f p1 1 10000000) (va_cwS 3 hts gX9_fill_X9_in rfl rfl rfl (by decide +kernel) ⟨Nat.le_of_ble_eq_true rfl, Nat.le_of_ble_eq_true rfl⟩) rfl hl.1 rfl (Nat.le_of_ble_eq_true rfl) dX9_fill_16 ⟨Nat.le_of_ble_eq_true rfl, Nat.le_of_ble_eq_true rfl⟩ (fun r5 f6 H locs hp7 hw => ?_)
    obtain ⟨hp7a, hp7b⟩ := hp7
    rw [hp7b] at hw
    rw [hp7a]
    refine lv_if_ne (tgt := 26) hx hb dX9_fill_19 (by decide) (fun c_8 => ?_) (fun c_8 => ?_)
    · have c_8 := fw_b1 c_8
      refine lv_aload_n hx hb dX9_fill_26 rfl (lv_at hl 0 rfl) ?_
      refine fw_get hx hb hts hown hE.1.1 hw (ci := 9) (fs := [.int (μ 0 0), .int (μ 1 0), .int (μ 2 0), .ref (β 3), .ref (β 4), .ref (β 5), .ref (β 6), .ref (β 7), .ref (β 8), .ref (β 9), .ref (β 10), .ref (β 11), .ref (β 12), .int (μ 13 0), .ref (β 14), .ref (β 15), .ref (β 16), .ref (β 17), .int (μ 18 0), .ref (β 19), .ref (β 20), .int (μ 21 0), .ref (β 22), .ref (β 23), .ref (β 24)]) (v := .int (μ 21 0)) hR.o iX9_fill_9 rfl 21 (by decide) rfl (by decide +kernel) dX9_fill_27 ?_
      rw [hI7]
      refine lv_bipush (v := 40) hx hb dX9_fill_30 (by decide) ?_
      refine lv_icmp_ne (tgt := 39) hx hb dX9_fill_32 (by decide) (fun c_9 => ?_) (fun c_9 => ?_)
      · refine lv_iconst (v := 0) hx hb dX9_fill_39 (by decide) ?_
        refine fw_callVi hx hb hml hown hts hE hw [.int 0] [] (c_X9_holds l D A y sa f β μ 0 hR) (cwV 1 hts gX9_fill_X9_holds rfl rfl rfl (by decide +kernel) ⟨Nat.le_of_ble_eq_true rfl, Nat.le_of_ble_eq_true rfl⟩) (ci := 9) rfl rfl hR.o rfl hl.1 rfl (Nat.le_of_ble_eq_true rfl) dX9_fill_40 ⟨Nat.le_of_ble_eq_true rfl, Nat.le_of_ble_eq_true rfl⟩ (fun r10 f11 H locs hp12 hw => ?_)
        obtain ⟨hp12a, hR⟩ := hp12
        rw [if_pos rfl] at hp12a
        rw [hp12a]
        refine lv_if_ne (tgt := 48) hx hb dX9_fill_43 (by decide) (fun _ => ?_) (fun c_13 => absurd c_13 (by decide))
        have hn40 : nt < 40 := by rcases Nat.lt_or_ge nt 40 with q | q; exact q; exact absurd (by rw [show nt = 40 by omega]; rfl) c_9
        obtain ⟨ev, hev, rfl⟩ := inr_of (n := 2) (by decide) c_4
        refine lv_iload_n hx hb dX9_fill_48 rfl (lv_at hl 2 rfl) ?_
        refine lv_aload_n hx hb dX9_fill_49 rfl (lv_at hl 0 rfl) ?_
        refine fw_get hx hb hts hown hE.1.1 hw (ci := 9) (fs := [.int 0, .int (μ 1 0), .int (μ 2 0), .ref (β 3), .ref (β 4), .ref (β 5), .ref (β 6), .ref (β 7), .ref (β 8), .ref (β 9), .ref (β 10), .ref (β 11), .ref (β 12), .int (μ 13 0), .ref (β 14), .ref (β 15), .ref (β 16), .ref (β 17), .int (μ 18 0), .ref (β 19), .ref (β 20), .int (μ 21 0), .ref (β 22), .ref (β 23), .ref (β 24)]) (v := .ref (β 20)) hR.o iX9_fill_9 rfl 20 (by decide) rfl (by decide +kernel) dX9_fill_50 ?_
        refine lv_iload_n hx hb dX9_fill_53 rfl (lv_at hl 1 rfl) ?_
        refine fw_iald hx hb hE.1.1 hw (g := (μ 20)) hR.a20 0 rfl (vp_in_nI (by omega) (by decide)) dX9_fill_54 ?_
        rw [nI_clamp (n := ev) (by omega)]
        refine fw_callSi hx hb hml hown hts hE hw [.int p1, .int ((μ 20) ev)] [] (c_X9_least l D A y sa f11 p1 ((μ 20) ev)) (va_cwS 2 hts gX9_fill_X9_least rfl rfl rfl (by decide +kernel) ⟨Nat.le_of_ble_eq_true rfl, Nat.le_of_ble_eq_true rfl⟩) rfl hl.1 rfl (Nat.le_of_ble_eq_true rfl) dX9_fill_55 ⟨Nat.le_of_ble_eq_true rfl, Nat.le_of_ble_eq_true rfl⟩ (fun r14 f15 H locs hp16 hw => ?_)
        obtain ⟨hp16a, hp16b⟩ := hp16
        rw [hp16b] at hw
        rw [hp16a]
        refine lv_istore_n (lv' := [(3, .int (lst p1 ((μ 20) ev))), (0, .ref (β 0)), (1, .int (nI ev)), (2, .int p1)]) hx hb dX9_fill_58 rfl hl (by decide) rfl (fun ls hl => ?_)
        refine lv_aload_n hx hb dX9_fill_59 rfl (lv_at hl 1 rfl) ?_
        refine fw_get hx hb hts hown hE.1.1 hw (ci := 9) (fs := [.int 0, .int (μ 1 0), .int (μ 2 0), .ref (β 3), .ref (β 4), .ref (β 5), .ref (β 6), .ref (β 7), .ref (β 8), .ref (β 9), .ref (β 10), .ref (β 11), .ref (β 12), .int (μ 13 0), .ref (β 14), .ref (β 15), .ref (β 16), .ref (β 17), .int (μ 18 0), .ref (β 19), .ref (β 20), .int (μ 21 0), .ref (β 22), .ref (β 23), .ref (β 24)]) (v := .ref (β 20)) hR.o iX9_fill_9 rfl 20 (by decide) rfl (by decide +kernel) dX9_fill_60 ?_
        refine lv_iload_n hx hb dX9_fill_63 rfl (lv_at hl 2 rfl) ?_
        refine lv_dup2_11 hx hb dX9_fill_64 rfl rfl ?_
        refine fw_iald hx hb hE.1.1 hw (g := (μ 20)) hR.a20 0 rfl (vp_in_nI (by omega) (by decide)) dX9_fill_65 ?_
        rw [nI_clamp (n := ev) (by omega)]
        refine lv_iload_n hx hb dX9_fill_66 rfl (lv_at hl 0 rfl) ?_
        refine lv_isub hx hb dX9_fill_67 ?_
        refine fw_iast hx hb hE.1.1 hw (g := (μ 20)) hR.a20 0 rfl (vp_in_nI (by omega) (by decide)) dX9_fill_68 (fun H locs hw => ?_)
        rw [nI_clamp (n := ev) (by omega)] at hw
        obtain ⟨f17, ef17⟩ : ∃ z, z = fw_up f11 (β 20) (.inl (y 0, 3, .inl (va_up (μ 20) ev (((μ 20) ev) - (lst p1 ((μ 20) ev)))))) := ⟨_, rfl⟩
        have hw : fw_S D A s.heap f17 H locs := by rw [ef17]; exact hw
        have hR : Rm y (up2 (up2 μ 0 0 0) 20 ev (((μ 20) ev) - (lst p1 ((μ 20) ev)))) β f17 := by rw [ef17]; exact hR.s20 ev (((μ 20) ev) - (lst p1 ((μ 20) ev)))
        refine lv_aload_n hx hb dX9_fill_69 rfl (lv_at hl 1 rfl) ?_
        refine fw_get hx hb hts hown hE.1.1 hw (ci := 9) (fs := [.int 0, .int (μ 1 0), .int (μ 2 0), .ref (β 3), .ref (β 4), .ref (β 5), .ref (β 6), .ref (β 7), .ref (β 8), .ref (β 9), .ref (β 10), .ref (β 11), .ref (β 12), .int (μ 13 0), .ref (β 14), .ref (β 15), .ref (β 16), .ref (β 17), .int (μ 18 0), .ref (β 19), .ref (β 20), .int (μ 21 0), .ref (β 22), .ref (β 23), .ref (β 24)]) (v := .ref (β 19)) hR.o iX9_fill_9 rfl 19 (by decide) rfl (by decide +kernel) dX9_fill_70 ?_
        refine lv_iload_n hx hb dX9_fill_73 rfl (lv_at hl 2 rfl) ?_
        refine lv_dup2_11 hx hb dX9_fill_74 rfl rfl ?_
        refine fw_iald hx hb hE.1.1 hw (g := (μ 19)) hR.a19 0 rfl (vp_in_nI (by omega) (by decide)) dX9_fill_75 ?_
        rw [nI_clamp (n := ev) (by omega)]
        refine lv_iload_n hx hb dX9_fill_76 rfl (lv_at hl 3 rfl) ?_
        refine lv_iload_n hx hb dX9_fill_77 rfl (lv_at hl 0 rfl) ?_
        refine lv_isub hx hb dX9_fill_78 ?_
        refine lv_iadd hx hb dX9_fill_79 ?_
        refine fw_iast hx hb hE.1.1 hw (g := (μ 19)) hR.a19 0 rfl (vp_in_nI (by omega) (by decide)) dX9_fill_80 (fun H locs hw => ?_)
        rw [nI_clamp (n := ev) (by omega)] at hw
        obtain ⟨f18, ef18⟩ : ∃ z, z = fw_up f17 (β 19) (.inl (y 0, 3, .inl (va_up (μ 19) ev (((μ 19) ev) + (p1 - (lst p1 ((μ 20) ev))))))) := ⟨_, rfl⟩
        have hw : fw_S D A s.heap f18 H locs := by rw [ef18]; exact hw
        have hR : Rm y (up2 (up2 (up2 μ 0 0 0) 20 ev (((μ 20) ev) - (lst p1 ((μ 20) ev)))) 19 ev (((μ 19) ev) + (p1 - (lst p1 ((μ 20) ev))))) β f18 := by rw [ef18]; exact hR.s19 ev (((μ 19) ev) + (p1 - (lst p1 ((μ 20) ev))))
        refine lv_aload_n hx hb dX9_fill_81 rfl (lv_at hl 1 rfl) ?_
        refine fw_get hx hb hts hown hE.1.1 hw (ci := 9) (fs := [.int 0, .int (μ 1 0), .int (μ 2 0), .ref (β 3), .ref (β 4), .ref (β 5), .ref (β 6), .ref (β 7), .ref (β 8), .ref (β 9), .ref (β 10), .ref (β 11), .ref (β 12), .int (μ 13 0), .ref (β 14), .ref (β 15), .ref (β 16), .ref (β 17), .int (μ 18 0), .ref (β 19), .ref (β 20), .int (μ 21 0), .ref (β 22), .ref (β 23), .ref (β 24)]) (v := .ref (β 22)) hR.o iX9_fill_9 rfl 22 (by decide) rfl (by decide +kernel) dX9_fill_82 ?_
        refine lv_aload_n hx hb dX9_fill_85 rfl (lv_at hl 1 rfl) ?_
        refine fw_get hx hb hts hown hE.1.1 hw (ci := 9) (fs := [.int 0, .int (μ 1 0), .int (μ 2 0), .ref (β 3), .ref (β 4), .ref (β 5), .ref (β 6), .ref (β 7), .ref (β 8), .ref (β 9), .ref (β 10), .ref (β 11), .ref (β 12), .int (μ 13 0), .ref (β 14), .ref (β 15), .ref (β 16), .ref (β 17), .int (μ 18 0), .ref (β 19), .ref (β 20), .int (μ 21 0), .ref (β 22), .ref (β 23), .ref (β 24)]) (v := .int (μ 21 0)) hR.o iX9_fill_9 rfl 21 (by decide) rfl (by decide +kernel) dX9_fill_86 ?_
        rw [hI7]
        refine lv_iload_n hx hb dX9_fill_89 rfl (lv_at hl 2 rfl) ?_
        refine fw_iast hx hb hE.1.1 hw (g := (μ 22)) hR.a22 0 rfl (vp_in_nI (by omega) (by decide)) dX9_fill_90 (fun H locs hw => ?_)
        rw [nI_clamp (n := nt) (by omega)] at hw
        obtain ⟨f19, ef19⟩ : ∃ z, z = fw_up f18 (β 22) (.inl (y 0, 40, .inl (va_up (μ 22) nt (nI ev)))) := ⟨_, rfl⟩
        have hw : fw_S D A s.heap f19 H locs := by rw [ef19]; exact hw
        have hR : Rm y (up2 (up2 (up2 (up2 μ 0 0 0) 20 ev (((μ 20) ev) - (lst p1 ((μ 20) ev)))) 19 ev (((μ 19) ev) + (p1 - (lst p1 ((μ 20) ev))))) 22 nt (nI ev)) β f19 := by rw [ef19]; exact hR.s22 nt (nI ev)
        refine lv_aload_n hx hb dX9_fill_91 rfl (lv_at hl 1 rfl) ?_
        refine fw_get hx hb hts hown hE.1.1 hw (ci := 9) (fs := [.int 0, .int (μ 1 0), .int (μ 2 0), .ref (β 3), .ref (β 4), .ref (β 5), .ref (β 6), .ref (β 7), .ref (β 8), .ref (β 9), .ref (β 10), .ref (β 11), .ref (β 12), .int (μ 13 0), .ref (β 14), .ref (β 15), .ref (β 16), .ref (β 17), .int (μ 18 0), .ref (β 19), .ref (β 20), .int (μ 21 0), .ref (β 22), .ref (β 23), .ref (β 24)]) (v := .ref (β 23)) hR.o iX9_fill_9 rfl 23 (by decide) rfl (by decide +kernel) dX9_fill_92 ?_
        refine lv_aload_n hx hb dX9_fill_95 rfl (lv_at hl 1 rfl) ?_
        refine fw_get hx hb hts hown hE.1.1 hw (ci := 9) (fs := [.int 0, .int (μ 1 0), .int (μ 2 0), .ref (β 3), .ref (β 4), .ref (β 5), .ref (β 6), .ref (β 7), .ref (β 8), .ref (β 9), .ref (β 10), .ref (β 11), .ref (β 12), .int (μ 13 0), .ref (β 14), .ref (β 15), .ref (β 16), .ref (β 17), .int (μ 18 0), .ref (β 19), .ref (β 20), .int (μ 21 0), .ref (β 22), .ref (β 23), .ref (β 24)]) (v := .int (μ 21 0)) hR.o iX9_fill_9 rfl 21 (by decide) rfl (by decide +kernel) dX9_fill_96 ?_
        rw [hI7]
        refine lv_iload_n hx hb dX9_fill_99 rfl (lv_at hl 3 rfl) ?_
        refine fw_iast hx hb hE.1.1 hw (g := (μ 23)) hR.a23 0 rfl (vp_in_nI (by omega) (by decide)) dX9_fill_100 (fun H locs hw => ?_)
        rw [nI_clamp (n := nt) (by omega)] at hw
        obtain ⟨f20, ef20⟩ : ∃ z, z = fw_up f19 (β 23) (.inl (y 0, 40, .inl (va_up (μ 23) nt p1))) := ⟨_, rfl⟩
        have hw : fw_S D A s.heap f20 H locs := by rw [ef20]; exact hw
        have hR : Rm y (up2 (up2 (up2 (up2 (up2 μ 0 0 0) 20 ev (((μ 20) ev) - (lst p1 ((μ 20) ev)))) 19 ev (((μ 19) ev) + (p1 - (lst p1 ((μ 20) ev))))) 22 nt (nI ev)) 23 nt p1) β f20 := by rw [ef20]; exact hR.s23 nt p1
        refine lv_aload_n hx hb dX9_fill_101 rfl (lv_at hl 1 rfl) ?_
        refine lv_dup hx hb dX9_fill_102 rfl ?_
        refine fw_get hx hb hts hown hE.1.1 hw (ci := 9) (fs := [.int 0, .int (μ 1 0), .int (μ 2 0), .ref (β 3), .ref (β 4), .ref (β 5), .ref (β 6), .ref (β 7), .ref (β 8), .ref (β 9), .ref (β 10), .ref (β 11), .ref (β 12), .int (μ 13 0), .ref (β 14), .ref (β 15), .ref (β 16), .ref (β 17), .int (μ 18 0), .ref (β 19), .ref (β 20), .int (μ 21 0), .ref (β 22), .ref (β 23), .ref (β 24)]) (v := .int (μ 21 0)) hR.o iX9_fill_9 rfl 21 (by decide) rfl (by decide +kernel) dX9_fill_103 ?_
        rw [hI7]
        refine lv_iconst (v := 1) hx hb dX9_fill_106 (by decide) ?_
        refine lv_iadd hx hb dX9_fill_107 ?_
        rw [show (((nI nt) + 1) : Int32) = (nI (nt + 1)) from nI_add (nt) (1)]
        refine fw_put hx hb hts hown hE.1.1 hw (ci := 9) (fs := [.int 0, .int (μ 1 0), .int (μ 2 0), .ref (β 3), .ref (β 4), .ref (β 5), .ref (β 6), .ref (β 7), .ref (β 8), .ref (β 9), .ref (β 10), .ref (β 11), .ref (β 12), .int (μ 13 0), .ref (β 14), .ref (β 15), .ref (β 16), .ref (β 17), .int (μ 18 0), .ref (β 19), .ref (β 20), .int (μ 21 0), .ref (β 22), .ref (β 23), .ref (β 24)]) (v := .int (nI (nt + 1))) hR.o iX9_fill_9 tyX9 tyX9_ok nmX9 rfl 21 (by decide) rfl rfl rfl (Nat.le_of_ble_eq_true rfl) (by decide +kernel) dX9_fill_108 (fun H locs hw => ?_)
        obtain ⟨f21, ef21⟩ : ∃ z, z = fw_up f20 (β 0) (.inr (9, [.int 0, .int (μ 1 0), .int (μ 2 0), .ref (β 3), .ref (β 4), .ref (β 5), .ref (β 6), .ref (β 7), .ref (β 8), .ref (β 9), .ref (β 10), .ref (β 11), .ref (β 12), .int (μ 13 0), .ref (β 14), .ref (β 15), .ref (β 16), .ref (β 17), .int (μ 18 0), .ref (β 19), .ref (β 20), .int (nI (nt + 1)), .ref (β 22), .ref (β 23), .ref (β 24)])) := ⟨_, rfl⟩
        have hw : fw_S D A s.heap f21 H locs := by rw [ef21]; exact hw
        have hR : Rm y (up2 (up2 (up2 (up2 (up2 (up2 μ 0 0 0) 20 ev (((μ 20) ev) - (lst p1 ((μ 20) ev)))) 19 ev (((μ 19) ev) + (p1 - (lst p1 ((μ 20) ev))))) 22 nt (nI ev)) 23 nt p1) 21 0 (nI (nt + 1))) β f21 := by rw [ef21]; exact hR.p21 (nI (nt + 1))
        refine lv_aload_n hx hb dX9_fill_111 rfl (lv_at hl 1 rfl) ?_
        refine fw_get hx hb hts hown hE.1.1 hw (ci := 9) (fs := [.int 0, .int (μ 1 0), .int (μ 2 0), .ref (β 3), .ref (β 4), .ref (β 5), .ref (β 6), .ref (β 7), .ref (β 8), .ref (β 9), .ref (β 10), .ref (β 11), .ref (β 12), .int (μ 13 0), .ref (β 14), .ref (β 15), .ref (β 16), .ref (β 17), .int (μ 18 0), .ref (β 19), .ref (β 20), .int (nI (nt + 1)), .ref (β 22), .ref (β 23), .ref (β 24)]) (v := .int (nI (nt + 1))) hR.o iX9_fill_9 rfl 21 (by decide) rfl (by decide +kernel) dX9_fill_112 ?_
        refine lv_iconst (v := 1) hx hb dX9_fill_115 (by decide) ?_
        refine lv_isub hx hb dX9_fill_116 ?_
        exact fw_iret hx hb hr hlocks hw (Nat.le_of_ble_eq_true rfl) (Nat.le_of_ble_eq_true rfl) dX9_fill_117 (Or.inr (Or.inr (Or.inr (⟨ev, hev, rfl, by assumption, by assumption, nI_pred _, hR⟩))))
      · refine lv_iconst (v := 3) hx hb dX9_fill_35 (by decide) ?_
        refine lv_goto (tgt := 40) hx hb dX9_fill_36 (by decide) ?_
        refine fw_callVi hx hb hml hown hts hE hw [.int 3] [] (c_X9_holds l D A y sa f β μ 3 hR) (cwV 1 hts gX9_fill_X9_holds rfl rfl rfl (by decide +kernel) ⟨Nat.le_of_ble_eq_true rfl, Nat.le_of_ble_eq_true rfl⟩) (ci := 9) rfl rfl hR.o rfl hl.1 rfl (Nat.le_of_ble_eq_true rfl) dX9_fill_40 ⟨Nat.le_of_ble_eq_true rfl, Nat.le_of_ble_eq_true rfl⟩ (fun r22 f23 H locs hp24 hw => ?_)
        obtain ⟨hp24a, hR⟩ := hp24
        rw [if_neg (by decide)] at hp24a
        rw [hp24a]
        refine lv_if_ne (tgt := 48) hx hb dX9_fill_43 (by decide) (fun c_25 => absurd c_25 (by decide)) (fun _ => ?_)
        refine lv_iconst (v := 0) hx hb dX9_fill_46 (by decide) ?_
        exact fw_iret hx hb hr hlocks hw (Nat.le_of_ble_eq_true rfl) (Nat.le_of_ble_eq_true rfl) dX9_fill_47 (Or.inr (Or.inr (Or.inl (⟨(by first | assumption | exact fun z => absurd z.1 (by assumption) | exact fun z => absurd z.2.1 (by assumption) | exact fun z => absurd z.2.2.1 (by assumption) | exact fun z => absurd z.2.2.2 (by assumption) | exact fun z => absurd z.2 (by assumption) | exact fun z => absurd z.2.2 (by assumption)), (by first | assumption | exact fun z => absurd z.1 (by assumption) | exact fun z => absurd z.2.1 (by assumption) | exact fun z => absurd z.2.2.1 (by assumption) | exact fun z => absurd z.2.2.2 (by assumption) | exact fun z => absurd z.2 (by assumption) | exact fun z => absurd z.2.2 (by assumption)), (by first | assumption | exact fun z => absurd z.1 (by assumption) | exact fun z => absurd z.2.1 (by assumption) | exact fun z => absurd z.2.2.1 (by assumption) | exact fun z => absurd z.2.2.2 (by assumption) | exact fun z => absurd z.2 (by assumption) | exact fun z => absurd z.2.2 (by assumption)), rfl, hR⟩))))
    · have c_8 := fw_b0 c_8
      refine lv_iconst (v := 2) hx hb dX9_fill_22 (by decide) ?_
      refine lv_goto (tgt := 40) hx hb dX9_fill_23 (by decide) ?_
      refine fw_callVi hx hb hml hown hts hE hw [.int 2] [] (c_X9_holds l D A y sa f β μ 2 hR) (cwV 1 hts gX9_fill_X9_holds rfl rfl rfl (by decide +kernel) ⟨Nat.le_of_ble_eq_true rfl, Nat.le_of_ble_eq_true rfl⟩) (ci := 9) rfl rfl hR.o rfl hl.1 rfl (Nat.le_of_ble_eq_true rfl) dX9_fill_40 ⟨Nat.le_of_ble_eq_true rfl, Nat.le_of_ble_eq_true rfl⟩ (fun r26 f27 H locs hp28 hw => ?_)
      obtain ⟨hp28a, hR⟩ := hp28
      rw [if_neg (by decide)] at hp28a
      rw [hp28a]
      refine lv_if_ne (tgt := 48) hx hb dX9_fill_43 (by decide) (fun c_29 => absurd c_29 (by decide)) (fun _ => ?_)
      refine lv_iconst (v := 0) hx hb dX9_fill_46 (by decide) ?_
      exact fw_iret hx hb hr hlocks hw (Nat.le_of_ble_eq_true rfl) (Nat.le_of_ble_eq_true rfl) dX9_fill_47 (Or.inr (Or.inl (⟨(by first | assumption | exact fun z => absurd z.1 (by assumption) | exact fun z => absurd z.2.1 (by assumption) | exact fun z => absurd z.2.2.1 (by assumption) | exact fun z => absurd z.2.2.2 (by assumption) | exact fun z => absurd z.2 (by assumption) | exact fun z => absurd z.2.2 (by assumption)), (by first | assumption | exact fun z => absurd z.1 (by assumption) | exact fun z => absurd z.2.1 (by assumption) | exact fun z => absurd z.2.2.1 (by assumption) | exact fun z => absurd z.2.2.2 (by assumption) | exact fun z => absurd z.2 (by assumption) | exact fun z => absurd z.2.2 (by assumption)), rfl, hR⟩)))
  · have c_4 := fw_b0 c_4
    refine lv_iconst (v := 1) hx hb dX9_fill_8 (by decide) ?_
    refine lv_goto (tgt := 40) hx hb dX9_fill_9 (by decide) ?_
    refine fw_callVi hx hb hml hown hts hE hw [.int 1] [] (c_X9_holds l D A y sa f β μ 1 hR) (cwV 1 hts gX9_fill_X9_holds rfl rfl rfl (by decide +kernel) ⟨Nat.le_of_ble_eq_true rfl, Nat.le_of_ble_eq_true rfl⟩) (ci := 9) rfl rfl hR.o rfl hl.1 rfl (Nat.le_of_ble_eq_true rfl) dX9_fill_40 ⟨Nat.le_of_ble_eq_true rfl, Nat.le_of_ble_eq_true rfl⟩ (fun r30 f31 H locs hp32 hw => ?_)
    obtain ⟨hp32a, hR⟩ := hp32
    rw [if_neg (by decide)] at hp32a
    rw [hp32a]
    refine lv_if_ne (tgt := 48) hx hb dX9_fill_43 (by decide) (fun c_33 => absurd c_33 (by decide)) (fun _ => ?_)
    refine lv_iconst (v := 0) hx hb dX9_fill_46 (by decide) ?_
    exact fw_iret hx hb hr hlocks hw (Nat.le_of_ble_eq_true rfl) (Nat.le_of_ble_eq_true rfl) dX9_fill_47 (Or.inl (⟨(by first | assumption | exact fun z => absurd z.1 (by assumption) | exact fun z => absurd z.2.1 (by assumption) | exact fun z => absurd z.2.2.1 (by assumption) | exact fun z => absurd z.2.2.2 (by assumption) | exact fun z => absurd z.2 (by assumption) | exact fun z => absurd z.2.2 (by assumption)), rfl, hR⟩))

theorem iX9_bounce_9 : ∀ w ∈ wsX90, w ∈ wsX9_bounce := by decide +kernel
set_option maxHeartbeats 4000000 in
set_option maxRecDepth 100000 in
/-- the reference: bounce -/
theorem c_X9_bounce (l : Launch) (D : va_G) (A : Nat → Prop) (y : Nat → ClassId) (sa : Nat → Nat) (f : fw_F) (β : Nat → Nat) (μ : mS) (p0 : Int32) (nw wk no nt : Nat) (hI : Im μ nw wk no nt) (hR : Rm y μ β f) : Met l yX9_bounce wsX9_bounce ({ frames := 1, cells := 0, slots := 0, locals := 22 } : Room) (cPc D A y sa f [.ref (β 0), .int p0]) (cQi D A (fun r f1 => (¬ inr p0 0 (nI nt - 1) ∧ r = 0 ∧ Rm y (up2 μ 0 0 1) β f1) ∨ ((∃ tv, tv < nt ∧ p0 = nI tv ∧ ¬ μ 24 tv = 0) ∧ r = 0 ∧ Rm y (up2 μ 0 0 2) β f1) ∨ (∃ tv ev, tv < nt ∧ ev < 3 ∧ p0 = nI tv ∧ μ 22 tv = nI ev ∧ μ 24 tv = 0 ∧ r = μ 20 ev + (μ 23 tv - (lst (μ 23 tv) (μ 19 ev))) ∧ Rm y (up2 (up2 (up2 (up2 μ 0 0 0) 24 tv 1) 19 ev (μ 19 ev - (lst (μ 23 tv) (μ 19 ev)))) 20 ev (μ 20 ev + (μ 23 tv - (lst (μ 23 tv) (μ 19 ev))))) β f1))) 0 0 A := by
  refine fw_met (by decide) rfl [.ref (β 0), .int p0] (Nat.le_of_ble_eq_true rfl) ?_
  intro p e s m args below meth c ls I hin hE hw hl
  obtain ⟨hx, hb, hr, hts, hown, hlocks, hml⟩ := I
  have hown : s.vm.findClass RX9 = some m.cls := hown
  have hl : lv_has ls 5 [(0, .ref (β 0)), (1, .int p0)] := hl
  obtain ⟨hI1, hI2, hI3, hI4, hI5, hI6, hI7, hI8, hI9, hI10, hI11, hI12, hI13⟩ := id hI
  refine lv_iload_n hx hb dX9_bounce_0 rfl (lv_at hl 1 rfl) ?_
  refine lv_iconst (v := 0) hx hb dX9_bounce_1 (by decide) ?_
  refine lv_aload_n hx hb dX9_bounce_2 rfl (lv_at hl 0 rfl) ?_
  refine fw_get hx hb hts hown hE.1.1 hw (ci := 9) (fs := [.int (μ 0 0), .int (μ 1 0), .int (μ 2 0), .ref (β 3), .ref (β 4), .ref (β 5), .ref (β 6), .ref (β 7), .ref (β 8), .ref (β 9), .ref (β 10), .ref (β 11), .ref (β 12), .int (μ 13 0), .ref (β 14), .ref (β 15), .ref (β 16), .ref (β 17), .int (μ 18 0), .ref (β 19), .ref (β 20), .int (μ 21 0), .ref (β 22), .ref (β 23), .ref (β 24)]) (v := .int (μ 21 0)) hR.o iX9_bounce_9 rfl 21 (by decide) rfl (by decide +kernel) dX9_bounce_3 ?_
  rw [hI7]
  refine lv_iconst (v := 1) hx hb dX9_bounce_6 (by decide) ?_
  refine lv_isub hx hb dX9_bounce_7 ?_
  refine fw_callSi hx hb hml hown hts hE hw [.int p0, .int 0, .int ((nI nt) - 1)] [] (c_X9_in l D A y sa f p0 0 ((nI nt) - 1)) (va_cwS 3 hts gX9_bounce_X9_in rfl rfl rfl (by decide +kernel) ⟨Nat.le_of_ble_eq_true rfl, Nat.le_of_ble_eq_true rfl⟩) rfl hl.1 rfl (Nat.le_of_ble_eq_true rfl) dX9_bounce_8 ⟨Nat.le_of_ble_eq_true rfl, Nat.le_of_ble_eq_true rfl⟩ (fun r1 f2 H locs hp3 hw => ?_)
  obtain ⟨hp3a, hp3b⟩ := hp3
  rw [hp3b] at hw
  rw [hp3a]
  refine lv_istore_n (lv' := [(2, .int (if inr p0 0 ((nI nt) - 1) then 1 else 0)), (0, .ref (β 0)), (1, .int p0)]) hx hb dX9_bounce_11 rfl hl (by decide) rfl (fun ls hl => ?_)
  refine lv_aload_n hx hb dX9_bounce_12 rfl (lv_at hl 1 rfl) ?_
  refine lv_iload_n hx hb dX9_bounce_13 rfl (lv_at hl 0 rfl) ?_
  refine lv_if_ne (tgt := 21) hx hb dX9_bounce_14 (by decide) (fun c_4 => ?_) (fun c_4 => ?_)
  · have c_4 := fw_b1 c_4
    obtain ⟨tv, htv, rfl⟩ := inr_w (n := nt) (by omega) c_4
    refine lv_aload_n hx hb dX9_bounce_21 rfl (lv_at hl 1 rfl) ?_
    refine fw_get hx hb hts hown hE.1.1 hw (ci := 9) (fs := [.int (μ 0 0), .int (μ 1 0), .int (μ 2 0), .ref (β 3), .ref (β 4), .ref (β 5), .ref (β 6), .ref (β 7), .ref (β 8), .ref (β 9), .ref (β 10), .ref (β 11), .ref (β 12), .int (μ 13 0), .ref (β 14), .ref (β 15), .ref (β 16), .ref (β 17), .int (μ 18 0), .ref (β 19), .ref (β 20), .int (μ 21 0), .ref (β 22), .ref (β 23), .ref (β 24)]) (v := .ref (β 24)) hR.o iX9_bounce_9 rfl 24 (by decide) rfl (by decide +kernel) dX9_bounce_22 ?_
    refine lv_iload_n hx hb dX9_bounce_25 rfl (lv_at hl 2 rfl) ?_
    refine fw_zald hx hb hE.1.1 hw (g := (μ 24)) hR.a24 1 rfl (vp_in_nI (by omega) (by decide)) dX9_bounce_26 ?_
    rw [nI_clamp (n := tv) (by omega)]
    refine lv_if_eq (tgt := 34) hx hb dX9_bounce_27 (by decide) (fun c_5 => ?_) (fun c_5 => ?_)
    · refine lv_iconst (v := 0) hx hb dX9_bounce_34 (by decide) ?_
      refine fw_callVi hx hb hml hown hts hE hw [.int 0] [] (c_X9_holds l D A y sa f β μ 0 hR) (cwV 1 hts gX9_bounce_X9_holds rfl rfl rfl (by decide +kernel) ⟨Nat.le_of_ble_eq_true rfl, Nat.le_of_ble_eq_true rfl⟩) (ci := 9) rfl rfl hR.o rfl hl.1 rfl (Nat.le_of_ble_eq_true rfl) dX9_bounce_35 ⟨Nat.le_of_ble_eq_true rfl, Nat.le_of_ble_eq_true rfl⟩ (fun r6 f7 H locs hp8 hw => ?_)
      obtain ⟨hp8a, hR⟩ := hp8
      rw [if_pos rfl] at hp8a
      rw [hp8a]
      refine lv_if_ne (tgt := 43) hx hb dX9_bounce_38 (by decide) (fun _ => ?_) (fun c_9 => absurd c_9 (by decide))
      obtain ⟨ev, hev, eev⟩ := hI13 tv htv
      refine lv_aload_n hx hb dX9_bounce_43 rfl (lv_at hl 1 rfl) ?_
      refine fw_get hx hb hts hown hE.1.1 hw (ci := 9) (fs := [.int 0, .int (μ 1 0), .int (μ 2 0), .ref (β 3), .ref (β 4), .ref (β 5), .ref (β 6), .ref (β 7), .ref (β 8), .ref (β 9), .ref (β 10), .ref (β 11), .ref (β 12), .int (μ 13 0), .ref (β 14), .ref (β 15), .ref (β 16), .ref (β 17), .int (μ 18 0), .ref (β 19), .ref (β 20), .int (μ 21 0), .ref (β 22), .ref (β 23), .ref (β 24)]) (v := .ref (β 22)) hR.o iX9_bounce_9 rfl 22 (by decide) rfl (by decide +kernel) dX9_bounce_44 ?_
      refine lv_iload_n hx hb dX9_bounce_47 rfl (lv_at hl 2 rfl) ?_
      refine fw_iald hx hb hE.1.1 hw (g := (μ 22)) hR.a22 0 rfl (vp_in_nI (by omega) (by decide)) dX9_bounce_48 ?_
      rw [nI_clamp (n := tv) (by omega)]
      rw [eev]
      refine lv_istore_n (lv' := [(3, .int (nI ev)), (2, .int (if inr (nI tv) 0 ((nI nt) - 1) then 1 else 0)), (0, .ref (β 0)), (1, .int (nI tv))]) hx hb dX9_bounce_49 rfl hl (by decide) rfl (fun ls hl => ?_)
      refine lv_aload_n hx hb dX9_bounce_50 rfl (lv_at hl 2 rfl) ?_
      refine fw_get hx hb hts hown hE.1.1 hw (ci := 9) (fs := [.int 0, .int (μ 1 0), .int (μ 2 0), .ref (β 3), .ref (β 4), .ref (β 5), .ref (β 6), .ref (β 7), .ref (β 8), .ref (β 9), .ref (β 10), .ref (β 11), .ref (β 12), .int (μ 13 0), .ref (β 14), .ref (β 15), .ref (β 16), .ref (β 17), .int (μ 18 0), .ref (β 19), .ref (β 20), .int (μ 21 0), .ref (β 22), .ref (β 23), .ref (β 24)]) (v := .ref (β 23)) hR.o iX9_bounce_9 rfl 23 (by decide) rfl (by decide +kernel) dX9_bounce_51 ?_
      refine lv_iload_n hx hb dX9_bounce_54 rfl (lv_at hl 3 rfl) ?_
      refine fw_iald hx hb hE.1.1 hw (g := (μ 23)) hR.a23 0 rfl (vp_in_nI (by omega) (by decide)) dX9_bounce_55 ?_
      rw [nI_clamp (n := tv) (by omega)]
      refine lv_aload_n hx hb dX9_bounce_56 rfl (lv_at hl 2 rfl) ?_
      refine fw_get hx hb hts hown hE.1.1 hw (ci := 9) (fs := [.int 0, .int (μ 1 0), .int (μ 2 0), .ref (β 3), .ref (β 4), .ref (β 5), .ref (β 6), .ref (β 7), .ref (β 8), .ref (β 9), .ref (β 10), .ref (β 11), .ref (β 12), .int (μ 13 0), .ref (β 14), .ref (β 15), .ref (β 16), .ref (β 17), .int (μ 18 0), .ref (β 19), .ref (β 20), .int (μ 21 0), .ref (β 22), .ref (β 23), .ref (β 24)]) (v := .ref (β 19)) hR.o iX9_bounce_9 rfl 19 (by decide) rfl (by decide +kernel) dX9_bounce_57 ?_
      refine lv_iload_n hx hb dX9_bounce_60 rfl (lv_at hl 0 rfl) ?_
      refine fw_iald hx hb hE.1.1 hw (g := (μ 19)) hR.a19 0 rfl (vp_in_nI (by omega) (by decide)) dX9_bounce_61 ?_
      rw [nI_clamp (n := ev) (by omega)]
      refine fw_callSi hx hb hml hown hts hE hw [.int ((μ 23) tv), .int ((μ 19) ev)] [] (c_X9_least l D A y sa f7 ((μ 23) tv) ((μ 19) ev)) (va_cwS 2 hts gX9_bounce_X9_least rfl rfl rfl (by decide +kernel) ⟨Nat.le_of_ble_eq_true rfl, Nat.le_of_ble_eq_true rfl⟩) rfl hl.1 rfl (Nat.le_of_ble_eq_true rfl) dX9_bounce_62 ⟨Nat.le_of_ble_eq_true rfl, Nat.le_of_ble_eq_true rfl⟩ (fun r10 f11 H locs hp12 hw => ?_)
      obtain ⟨hp12a, hp12b⟩ := hp12
      rw [hp12b] at hw
      rw [hp12a]
      refine lv_istore (lv' := [(4, .int (lst ((μ 23) tv) ((μ 19) ev))), (3, .int (nI ev)), (2, .int (if inr (nI tv) 0 ((nI nt) - 1) then 1 else 0)), (0, .ref (β 0)), (1, .int (nI tv))]) hx hb dX9_bounce_65 hl (by decide) rfl (fun ls hl => ?_)
      refine lv_aload_n hx hb dX9_bounce_67 rfl (lv_at hl 3 rfl) ?_
      refine fw_get hx hb hts hown hE.1.1 hw (ci := 9) (fs := [.int 0, .int (μ 1 0), .int (μ 2 0), .ref (β 3), .ref (β 4), .ref (β 5), .ref (β 6), .ref (β 7), .ref (β 8), .ref (β 9), .ref (β 10), .ref (β 11), .ref (β 12), .int (μ 13 0), .ref (β 14), .ref (β 15), .ref (β 16), .ref (β 17), .int (μ 18 0), .ref (β 19), .ref (β 20), .int (μ 21 0), .ref (β 22), .ref (β 23), .ref (β 24)]) (v := .ref (β 24)) hR.o iX9_bounce_9 rfl 24 (by decide) rfl (by decide +kernel) dX9_bounce_68 ?_
      refine lv_iload_n hx hb dX9_bounce_71 rfl (lv_at hl 4 rfl) ?_
      refine lv_iconst (v := 1) hx hb dX9_bounce_72 (by decide) ?_
      refine fw_zast hx hb hE.1.1 hw (g := (μ 24)) hR.a24 1 rfl (vp_in_nI (by omega) (by decide)) (by decide +kernel) dX9_bounce_73 (fun H locs hw => ?_)
      rw [nI_clamp (n := tv) (by omega)] at hw
      obtain ⟨f13, ef13⟩ : ∃ z, z = fw_up f7 (β 24) (.inl (y 1, 40, .inl (va_up (μ 24) tv 1))) := ⟨_, rfl⟩
      have hw : fw_S D A s.heap f13 H locs := by rw [ef13]; exact hw
      have hR : Rm y (up2 (up2 μ 0 0 0) 24 tv 1) β f13 := by rw [ef13]; exact hR.s24 tv 1
      refine lv_aload_n hx hb dX9_bounce_74 rfl (lv_at hl 3 rfl) ?_
      refine fw_get hx hb hts hown hE.1.1 hw (ci := 9) (fs := [.int 0, .int (μ 1 0), .int (μ 2 0), .ref (β 3), .ref (β 4), .ref (β 5), .ref (β 6), .ref (β 7), .ref (β 8), .ref (β 9), .ref (β 10), .ref (β 11), .ref (β 12), .int (μ 13 0), .ref (β 14), .ref (β 15), .ref (β 16), .ref (β 17), .int (μ 18 0), .ref (β 19), .ref (β 20), .int (μ 21 0), .ref (β 22), .ref (β 23), .ref (β 24)]) (v := .ref (β 19)) hR.o iX9_bounce_9 rfl 19 (by decide) rfl (by decide +kernel) dX9_bounce_75 ?_
      refine lv_iload_n hx hb dX9_bounce_78 rfl (lv_at hl 1 rfl) ?_
      refine lv_dup2_11 hx hb dX9_bounce_79 rfl rfl ?_
      refine fw_iald hx hb hE.1.1 hw (g := (μ 19)) hR.a19 0 rfl (vp_in_nI (by omega) (by decide)) dX9_bounce_80 ?_
      rw [nI_clamp (n := ev) (by omega)]
      refine lv_iload hx hb dX9_bounce_81 (lv_at hl 0 rfl) ?_
      refine lv_isub hx hb dX9_bounce_83 ?_
      refine fw_iast hx hb hE.1.1 hw (g := (μ 19)) hR.a19 0 rfl (vp_in_nI (by omega) (by decide)) dX9_bounce_84 (fun H locs hw => ?_)
      rw [nI_clamp (n := ev) (by omega)] at hw
      obtain ⟨f14, ef14⟩ : ∃ z, z = fw_up f13 (β 19) (.inl (y 0, 3, .inl (va_up (μ 19) ev (((μ 19) ev) - (lst ((μ 23) tv) ((μ 19) ev)))))) := ⟨_, rfl⟩
      have hw : fw_S D A s.heap f14 H locs := by rw [ef14]; exact hw
      have hR : Rm y (up2 (up2 (up2 μ 0 0 0) 24 tv 1) 19 ev (((μ 19) ev) - (lst ((μ 23) tv) ((μ 19) ev)))) β f14 := by rw [ef14]; exact hR.s19 ev (((μ 19) ev) - (lst ((μ 23) tv) ((μ 19) ev)))
      refine lv_aload_n hx hb dX9_bounce_85 rfl (lv_at hl 3 rfl) ?_
      refine fw_get hx hb hts hown hE.1.1 hw (ci := 9) (fs := [.int 0, .int (μ 1 0), .int (μ 2 0), .ref (β 3), .ref (β 4), .ref (β 5), .ref (β 6), .ref (β 7), .ref (β 8), .ref (β 9), .ref (β 10), .ref (β 11), .ref (β 12), .int (μ 13 0), .ref (β 14), .ref (β 15), .ref (β 16), .ref (β 17), .int (μ 18 0), .ref (β 19), .ref (β 20), .int (μ 21 0), .ref (β 22), .ref (β 23), .ref (β 24)]) (v := .ref (β 20)) hR.o iX9_bounce_9 rfl 20 (by decide) rfl (by decide +kernel) dX9_bounce_86 ?_
      refine lv_iload_n hx hb dX9_bounce_89 rfl (lv_at hl 1 rfl) ?_
      refine lv_dup2_11 hx hb dX9_bounce_90 rfl rfl ?_
      refine fw_iald hx hb hE.1.1 hw (g := (μ 20)) hR.a20 0 rfl (vp_in_nI (by omega) (by decide)) dX9_bounce_91 ?_
      rw [nI_clamp (n := ev) (by omega)]
      refine lv_aload_n hx hb dX9_bounce_92 rfl (lv_at hl 3 rfl) ?_
      refine fw_get hx hb hts hown hE.1.1 hw (ci := 9) (fs := [.int 0, .int (μ 1 0), .int (μ 2 0), .ref (β 3), .ref (β 4), .ref (β 5), .ref (β 6), .ref (β 7), .ref (β 8), .ref (β 9), .ref (β 10), .ref (β 11), .ref (β 12), .int (μ 13 0), .ref (β 14), .ref (β 15), .ref (β 16), .ref (β 17), .int (μ 18 0), .ref (β 19), .ref (β 20), .int (μ 21 0), .ref (β 22), .ref (β 23), .ref (β 24)]) (v := .ref (β 23)) hR.o iX9_bounce_9 rfl 23 (by decide) rfl (by decide +kernel) dX9_bounce_93 ?_
      refine lv_iload_n hx hb dX9_bounce_96 rfl (lv_at hl 4 rfl) ?_
      refine fw_iald hx hb hE.1.1 hw (g := (μ 23)) hR.a23 0 rfl (vp_in_nI (by omega) (by decide)) dX9_bounce_97 ?_
      rw [nI_clamp (n := tv) (by omega)]
      refine lv_iload hx hb dX9_bounce_98 (lv_at hl 0 rfl) ?_
      refine lv_isub hx hb dX9_bounce_100 ?_
      refine lv_iadd hx hb dX9_bounce_101 ?_
      refine fw_iast hx hb hE.1.1 hw (g := (μ 20)) hR.a20 0 rfl (vp_in_nI (by omega) (by decide)) dX9_bounce_102 (fun H locs hw => ?_)
      rw [nI_clamp (n := ev) (by omega)] at hw
      obtain ⟨f15, ef15⟩ : ∃ z, z = fw_up f14 (β 20) (.inl (y 0, 3, .inl (va_up (μ 20) ev (((μ 20) ev) + (((μ 23) tv) - (lst ((μ 23) tv) ((μ 19) ev))))))) := ⟨_, rfl⟩
      have hw : fw_S D A s.heap f15 H locs := by rw [ef15]; exact hw
      have hR : Rm y (up2 (up2 (up2 (up2 μ 0 0 0) 24 tv 1) 19 ev (((μ 19) ev) - (lst ((μ 23) tv) ((μ 19) ev)))) 20 ev (((μ 20) ev) + (((μ 23) tv) - (lst ((μ 23) tv) ((μ 19) ev))))) β f15 := by rw [ef15]; exact hR.s20 ev (((μ 20) ev) + (((μ 23) tv) - (lst ((μ 23) tv) ((μ 19) ev))))
      refine lv_aload_n hx hb dX9_bounce_103 rfl (lv_at hl 3 rfl) ?_
      refine fw_get hx hb hts hown hE.1.1 hw (ci := 9) (fs := [.int 0, .int (μ 1 0), .int (μ 2 0), .ref (β 3), .ref (β 4), .ref (β 5), .ref (β 6), .ref (β 7), .ref (β 8), .ref (β 9), .ref (β 10), .ref (β 11), .ref (β 12), .int (μ 13 0), .ref (β 14), .ref (β 15), .ref (β 16), .ref (β 17), .int (μ 18 0), .ref (β 19), .ref (β 20), .int (μ 21 0), .ref (β 22), .ref (β 23), .ref (β 24)]) (v := .ref (β 20)) hR.o iX9_bounce_9 rfl 20 (by decide) rfl (by decide +kernel) dX9_bounce_104 ?_
      refine lv_iload_n hx hb dX9_bounce_107 rfl (lv_at hl 1 rfl) ?_
      refine fw_iald hx hb hE.1.1 hw (g := (va_up (μ 20) ev (((μ 20) ev) + (((μ 23) tv) - (lst ((μ 23) tv) ((μ 19) ev)))))) hR.a20 0 rfl (vp_in_nI (by omega) (by decide)) dX9_bounce_108 ?_
      rw [nI_clamp (n := ev) (by omega)]
      exact fw_iret hx hb hr hlocks hw (Nat.le_of_ble_eq_true rfl) (Nat.le_of_ble_eq_true rfl) dX9_bounce_109 (Or.inr (Or.inr ⟨tv, ev, htv, hev, rfl, eev, by assumption, by simp only [va_up_s], hR⟩))
    · refine lv_iconst (v := 2) hx hb dX9_bounce_30 (by decide) ?_
      refine lv_goto (tgt := 35) hx hb dX9_bounce_31 (by decide) ?_
      refine fw_callVi hx hb hml hown hts hE hw [.int 2] [] (c_X9_holds l D A y sa f β μ 2 hR) (cwV 1 hts gX9_bounce_X9_holds rfl rfl rfl (by decide +kernel) ⟨Nat.le_of_ble_eq_true rfl, Nat.le_of_ble_eq_true rfl⟩) (ci := 9) rfl rfl hR.o rfl hl.1 rfl (Nat.le_of_ble_eq_true rfl) dX9_bounce_35 ⟨Nat.le_of_ble_eq_true rfl, Nat.le_of_ble_eq_true rfl⟩ (fun r16 f17 H locs hp18 hw => ?_)
      obtain ⟨hp18a, hR⟩ := hp18
      rw [if_neg (by decide)] at hp18a
      rw [hp18a]
      refine lv_if_ne (tgt := 43) hx hb dX9_bounce_38 (by decide) (fun c_19 => absurd c_19 (by decide)) (fun _ => ?_)
      refine lv_iconst (v := 0) hx hb dX9_bounce_41 (by decide) ?_
      exact fw_iret hx hb hr hlocks hw (Nat.le_of_ble_eq_true rfl) (Nat.le_of_ble_eq_true rfl) dX9_bounce_42 (Or.inr (Or.inl ⟨⟨tv, htv, rfl, by assumption⟩, rfl, hR⟩))
  · have c_4 := fw_b0 c_4
    refine lv_iconst (v := 1) hx hb dX9_bounce_17 (by decide) ?_
    refine lv_goto (tgt := 35) hx hb dX9_bounce_18 (by decide) ?_
    refine fw_callVi hx hb hml hown hts hE hw [.int 1] [] (c_X9_holds l D A y sa f β μ 1 hR) (cwV 1 hts gX9_bounce_X9_holds rfl rfl rfl (by decide +kernel) ⟨Nat.le_of_ble_eq_true rfl, Nat.le_of_ble_eq_true rfl⟩) (ci := 9) rfl rfl hR.o rfl hl.1 rfl (Nat.le_of_ble_eq_true rfl) dX9_bounce_35 ⟨Nat.le_of_ble_eq_true rfl, Nat.le_of_ble_eq_true rfl⟩ (fun r20 f21 H locs hp22 hw => ?_)
    obtain ⟨hp22a, hR⟩ := hp22
    rw [if_neg (by decide)] at hp22a
    rw [hp22a]
    refine lv_if_ne (tgt := 43) hx hb dX9_bounce_38 (by decide) (fun c_23 => absurd c_23 (by decide)) (fun _ => ?_)
    refine lv_iconst (v := 0) hx hb dX9_bounce_41 (by decide) ?_
    exact fw_iret hx hb hr hlocks hw (Nat.le_of_ble_eq_true rfl) (Nat.le_of_ble_eq_true rfl) dX9_bounce_42 (Or.inl ⟨by assumption, rfl, hR⟩)
