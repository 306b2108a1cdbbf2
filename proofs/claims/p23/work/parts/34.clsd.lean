theorem Rc.ne {y : Nat → ClassId} {nw no nt wk : Nat} {κ : cS} {α : Nat → Nat → Nat → Nat} {f : fw_F} (h : Rc y nw no nt wk κ α f) {k i j k' i' j' : Nat} {e e2 : va_E} (h1 : cellC y nw no nt wk κ α k i j = some e) (h2 : cellC y nw no nt wk κ α k' i' j' = some e2) (hn : ¬ (k = k' ∧ i = i' ∧ j = j')) : α k i j ≠ α k' i' j' := fun z => hn (h.2 k i j k' i' j' (by rw [h1]; exact fun q => nomatch q) (by rw [h2]; exact fun q => nomatch q) z)
theorem Rc.neW {y : Nat → ClassId} {nw no nt wk : Nat} {κ : cS} {α : Nat → Nat → Nat → Nat} {f : fw_F} (h : Rc y nw no nt wk κ α f) {w : Nat} (hw : w < nw) : α 3 w 2 ≠ α 3 w 3 := h.ne (if_pos hw) (if_pos hw) (by omega)
theorem Rc.neD {y : Nat → ClassId} {nw no nt wk : Nat} {κ : cS} {α : Nat → Nat → Nat → Nat} {f : fw_F} (h : Rc y nw no nt wk κ α f) {w : Nat} (hw : w < 3) : α 2 w 2 ≠ α 2 w 3 := h.ne (if_pos hw) (if_pos hw) (by omega)
theorem Rc.neN {y : Nat → ClassId} {nw no nt wk : Nat} {κ : cS} {α : Nat → Nat → Nat → Nat} {f : fw_F} (h : Rc y nw no nt wk κ α f) {w : Nat} (hw : w < 3) : α 2 w 5 ≠ α 2 w 6 := h.ne (if_pos hw) (if_pos hw) (by omega)
/-- a rule is told: its values in row (KV, I), what was told in row (KT, I) -/
def tellK (κ : cS) (KV KT I kv : Nat) (v : Int32) : cS := upF (upF κ KT I (va_up (κ KT I) kv 1)) KV I (tlV (va_up (κ KT I) kv 1) v (30 - kv) (kv + 1) (va_up (κ KV I) kv v))
theorem iX8_setRank_7 : ∀ w ∈ wsX70, w ∈ wsX8_setRank := by decide +kernel
set_option maxHeartbeats 4000000 in
set_option maxRecDepth 100000 in
/-- setRank -/
theorem c_X8_setRank (l : Launch) (D : va_G) (A : Nat → Prop) (y : Nat → ClassId) (sa : Nat → Nat) (f : fw_F) (hfl : l.stackTraces = false) (α : Nat → Nat → Nat → Nat) (κ : cS) (nw no nt wk : Nat) (p0 p1 p2 : Int32) (hI : Ic nw no nt wk κ) (hR : Rc y nw no nt wk κ α f) : vx_Met l yX8_setRank wsX8_setRank ({ frames := 8, cells := 3, slots := 18, locals := 130 } : Room) (cPc D A y sa f [.ref (α 0 0 0), .int p0, .int p1, .int p2]) (cQi D A (fun r f1 => ∃ w kv rv, w < nw ∧ kv ≤ 30 ∧ rv < 3 ∧ p0 = nI w ∧ p1 = nI kv ∧ p2 = nI rv ∧ r = κ 5 w kv ∧ Rc y nw no nt wk (tellK κ 5 6 w kv p2) α f1)) (cX D A f (fun E => (E = nIOB ∧ ¬ (inr p0 0 (nI nw - 1) ∧ inr p2 0 2)) ∨ (E = nIAE ∧ inr p0 0 (nI nw - 1) ∧ inr p2 0 2 ∧ ¬ inr p1 0 30))) 3 18 A := by
  refine fw_xmet (by decide) rfl [.ref (α 0 0 0), .int p0, .int p1, .int p2] (Nat.le_of_ble_eq_true rfl) ?_
  intro p e s m args below meth c ls I htab hE hw hl
  obtain ⟨hx, hb, hr, hts, hown, hlocks, hml⟩ := I
  have hown : s.vm.findClass RX8 = some m.cls := hown
  have hl : lv_has ls 6 [(0, .ref (α 0 0 0)), (1, .int p0), (2, .int p1), (3, .int p2)] := hl
  obtain ⟨hI1, hI2, hI3, hI4, hI5, hI6, hI7, hI8, hI9, hI10⟩ := id hI
  refine lv_aload_n hx hb dX8_setRank_0 rfl (lv_at hl 0 rfl) ?_
  refine lv_iload_n hx hb dX8_setRank_1 rfl (lv_at hl 1 rfl) ?_
  refine fw_tVq hx hb hml hown hts hE hw htab hlocks [.int p0] [] (c_X8_workerOf l D A y sa f hfl α κ nw no nt wk p0 (by omega) hR) (cwV 1 hts gX8_setRank_X8_workerOf rfl rfl rfl (by decide +kernel) ⟨Nat.le_of_ble_eq_true rfl, Nat.le_of_ble_eq_true rfl⟩) (ci := 8) rfl rfl hR.x rfl hl.1 rfl (Nat.le_of_ble_eq_true rfl) dX8_setRank_2 ⟨Nat.le_of_ble_eq_true rfl, Nat.le_of_ble_eq_true rfl⟩ (fun E h => Or.inl ⟨h.1, fun z => h.2 z.1⟩) (Nat.le_of_ble_eq_true rfl) (Nat.le_of_ble_eq_true rfl) (fun r1 f2 H locs hp3 hw => ?_)
  obtain ⟨w, hwn, rfl, hp3a, hp3b⟩ := hp3
  rw [hp3b] at hw
  rw [hp3a]
  refine lv_astore (lv' := [(4, .ref (α 3 w 0)), (0, .ref (α 0 0 0)), (1, .int (nI w)), (2, .int p1), (3, .int p2)]) hx hb dX8_setRank_5 hl (by decide) rfl (fun ls hl => ?_)
  refine lv_aload_n hx hb dX8_setRank_7 rfl (lv_at hl 1 rfl) ?_
  refine lv_iload_n hx hb dX8_setRank_8 rfl (lv_at hl 4 rfl) ?_
  refine fw_tVq hx hb hml hown hts hE hw htab hlocks [.int p2] [] (c_X8_ratesOf l D A y sa f hfl α κ nw no nt wk p2 hR) (cwV 1 hts gX8_setRank_X8_ratesOf rfl rfl rfl (by decide +kernel) ⟨Nat.le_of_ble_eq_true rfl, Nat.le_of_ble_eq_true rfl⟩) (ci := 8) rfl rfl hR.x rfl hl.1 rfl (Nat.le_of_ble_eq_true rfl) dX8_setRank_9 ⟨Nat.le_of_ble_eq_true rfl, Nat.le_of_ble_eq_true rfl⟩ (fun E h => Or.inl ⟨h.1, fun z => h.2 z.2⟩) (Nat.le_of_ble_eq_true rfl) (Nat.le_of_ble_eq_true rfl) (fun r4 f5 H locs hp6 hw => ?_)
  obtain ⟨rv, hrv, rfl, hp6a, hp6b⟩ := hp6
  rw [hp6b] at hw
  rw [hp6a]
  refine lv_pop hx hb dX8_setRank_12 rfl ?_
  refine lv_iload_n hx hb dX8_setRank_13 rfl (lv_at hl 3 rfl) ?_
  refine fw_tSv hx hb hml hown hts hE hw htab hlocks [.int p1] [] (c_X8_checkWeek l D A y sa f hfl p1) (va_cwS 1 hts gX8_setRank_X8_checkWeek rfl rfl rfl (by decide +kernel) ⟨Nat.le_of_ble_eq_true rfl, Nat.le_of_ble_eq_true rfl⟩) rfl hl.1 rfl (Nat.le_of_ble_eq_true rfl) dX8_setRank_14 ⟨Nat.le_of_ble_eq_true rfl, Nat.le_of_ble_eq_true rfl⟩ (fun E h => Or.inr ⟨h.1, inr_wI hwn (by omega), inr_nI (n := 2) (by omega) (by decide), h.2⟩) (Nat.le_of_ble_eq_true rfl) (Nat.le_of_ble_eq_true rfl) (fun f8 H locs hp9 hw => ?_)
  obtain ⟨hin1, hp9b⟩ := hp9
  rw [hp9b] at hw
  obtain ⟨kv, hkv, rfl⟩ := inr_of (n := 30) (by decide) hin1
  refine lv_aload hx hb dX8_setRank_17 (lv_at hl 0 rfl) ?_
  refine fw_get hx hb hts hown hE.1.1 hw (ci := 7) (fs := [.ref (α 1 (κ 4 w 0).toNatClampNeg 0), .ref (α 3 w 1), .int (κ 4 w 1), .int (κ 4 w 2), .int (κ 4 w 3), .int (κ 4 w 4), .ref (α 3 w 4), .ref (α 3 w 5)]) (v := .ref (α 3 w 1)) (hR.w0 hwn) iX8_setRank_7 rfl 1 (by decide) rfl (by decide +kernel) dX8_setRank_19 ?_
  refine lv_iload_n hx hb dX8_setRank_22 rfl (lv_at hl 3 rfl) ?_
  refine fw_callVi hx hb hml hown hts hE hw [.int (nI kv)] [] (c_X3_inWeek l D A y sa f (α 3 w 1) (α 3 w 2) (α 3 w 3) kv (κ 5 w) (by omega) (hR.w1 hwn) (hR.w2 hwn)) (cwV 1 hts gX8_setRank_X3_inWeek rfl rfl rfl (by decide +kernel) ⟨Nat.le_of_ble_eq_true rfl, Nat.le_of_ble_eq_true rfl⟩) (ci := 3) rfl rfl (hR.w1 hwn) rfl hl.1 rfl (Nat.le_of_ble_eq_true rfl) dX8_setRank_23 ⟨Nat.le_of_ble_eq_true rfl, Nat.le_of_ble_eq_true rfl⟩ (fun r10 f11 H locs hp12 hw => ?_)
  obtain ⟨hp12a, hp12b⟩ := hp12
  rw [hp12b] at hw
  rw [hp12a]
  refine lv_istore (lv' := [(5, .int (κ 5 w kv)), (4, .ref (α 3 w 0)), (0, .ref (α 0 0 0)), (1, .int (nI w)), (2, .int (nI kv)), (3, .int (nI rv))]) hx hb dX8_setRank_26 hl (by decide) rfl (fun ls hl => ?_)
  refine lv_aload hx hb dX8_setRank_28 (lv_at hl 1 rfl) ?_
  refine fw_get hx hb hts hown hE.1.1 hw (ci := 7) (fs := [.ref (α 1 (κ 4 w 0).toNatClampNeg 0), .ref (α 3 w 1), .int (κ 4 w 1), .int (κ 4 w 2), .int (κ 4 w 3), .int (κ 4 w 4), .ref (α 3 w 4), .ref (α 3 w 5)]) (v := .ref (α 3 w 1)) (hR.w0 hwn) iX8_setRank_7 rfl 1 (by decide) rfl (by decide +kernel) dX8_setRank_30 ?_
  refine lv_iload_n hx hb dX8_setRank_33 rfl (lv_at hl 4 rfl) ?_
  refine lv_iload_n hx hb dX8_setRank_34 rfl (lv_at hl 5 rfl) ?_
  refine fw_callVv hx hb hml hown hts hE hw [.int (nI kv), .int (nI rv)] [] (c_X3_tell l D A y sa f (α 3 w 1) (α 3 w 2) (α 3 w 3) kv (κ 5 w) (κ 6 w) (nI rv) (by omega) (fw_ne2 (hR.w1 hwn) (hR.w2 hwn) (by simp)) (fw_ne2 (hR.w1 hwn) (hR.w3 hwn) (by simp)) (hR.neW hwn) (hR.w1 hwn) (hR.w2 hwn) (hR.w3 hwn)) (cwV 2 hts gX8_setRank_X3_tell rfl rfl rfl (by decide +kernel) ⟨Nat.le_of_ble_eq_true rfl, Nat.le_of_ble_eq_true rfl⟩) (ci := 3) rfl rfl (hR.w1 hwn) rfl hl.1 rfl (Nat.le_of_ble_eq_true rfl) dX8_setRank_35 ⟨Nat.le_of_ble_eq_true rfl, Nat.le_of_ble_eq_true rfl⟩ (fun f14 H locs hp15 hw => ?_)
  have hR2 : Rc y nw no nt wk (tellK κ 5 6 w kv (nI rv)) α f14 := by rw [hp15]; exact (hR.setRT hwn _).setRV hwn _
  refine lv_iload hx hb dX8_setRank_38 (lv_at hl 0 rfl) ?_
  exact vx_ret (fw_iret hx hb hr hlocks hw (Nat.le_of_ble_eq_true rfl) (Nat.le_of_ble_eq_true rfl) dX8_setRank_40 (⟨w, kv, rv, hwn, hkv, hrv, rfl, rfl, rfl, rfl, hR2⟩))

theorem iX8_setRates_2 : ∀ w ∈ wsX20, w ∈ wsX8_setRates := by decide +kernel
set_option maxHeartbeats 4000000 in
set_option maxRecDepth 100000 in
/-- setRates -/
theorem c_X8_setRates (l : Launch) (D : va_G) (A : Nat → Prop) (y : Nat → ClassId) (sa : Nat → Nat) (f : fw_F) (hfl : l.stackTraces = false) (α : Nat → Nat → Nat → Nat) (κ : cS) (nw no nt wk : Nat) (p0 p1 p2 p3 : Int32) (hI : Ic nw no nt wk κ) (hR : Rc y nw no nt wk κ α f) : vx_Met l yX8_setRates wsX8_setRates ({ frames := 8, cells := 4, slots := 24, locals := 130 } : Room) (cPc D A y sa f [.ref (α 0 0 0), .int p0, .int p1, .int p2, .int p3]) (cQi D A (fun r f1 => ∃ rv kv, rv < 3 ∧ kv ≤ 30 ∧ p0 = nI rv ∧ p1 = nI kv ∧ inr p2 0 10000 ∧ inr p3 0 10000 ∧ r = κ 2 (2 * rv) kv ∧ Rc y nw no nt wk (tellK (tellK κ 2 3 (2 * rv) kv p2) 2 3 (2 * rv + 1) kv p3) α f1)) (cX D A f (fun E => (E = nIOB ∧ ¬ inr p0 0 2) ∨ (E = nIAE ∧ inr p0 0 2 ∧ ¬ (inr p1 0 30 ∧ inr p2 0 10000 ∧ inr p3 0 10000)))) 4 24 A := by
  refine fw_xmet (by decide) rfl [.ref (α 0 0 0), .int p0, .int p1, .int p2, .int p3] (Nat.le_of_ble_eq_true rfl) ?_
  intro p e s m args below meth c ls I htab hE hw hl
  obtain ⟨hx, hb, hr, hts, hown, hlocks, hml⟩ := I
  have hown : s.vm.findClass RX8 = some m.cls := hown
  have hl : lv_has ls 7 [(0, .ref (α 0 0 0)), (1, .int p0), (2, .int p1), (3, .int p2), (4, .int p3)] := hl
  obtain ⟨hI1, hI2, hI3, hI4, hI5, hI6, hI7, hI8, hI9, hI10⟩ := id hI
  refine lv_aload_n hx hb dX8_setRates_0 rfl (lv_at hl 0 rfl) ?_
  refine lv_iload_n hx hb dX8_setRates_1 rfl (lv_at hl 1 rfl) ?_
  refine fw_tVq hx hb hml hown hts hE hw htab hlocks [.int p0] [] (c_X8_ratesOf l D A y sa f hfl α κ nw no nt wk p0 hR) (cwV 1 hts gX8_setRates_X8_ratesOf rfl rfl rfl (by decide +kernel) ⟨Nat.le_of_ble_eq_true rfl, Nat.le_of_ble_eq_true rfl⟩) (ci := 8) rfl rfl hR.x rfl hl.1 rfl (Nat.le_of_ble_eq_true rfl) dX8_setRates_2 ⟨Nat.le_of_ble_eq_true rfl, Nat.le_of_ble_eq_true rfl⟩ (fun E h => Or.inl h) (Nat.le_of_ble_eq_true rfl) (Nat.le_of_ble_eq_true rfl) (fun r1 f2 H locs hp3 hw => ?_)
  obtain ⟨rv, hrv, rfl, hp3a, hp3b⟩ := hp3
  rw [hp3b] at hw
  rw [hp3a]
  refine lv_astore (lv' := [(5, .ref (α 2 rv 0)), (0, .ref (α 0 0 0)), (1, .int (nI rv)), (2, .int p1), (3, .int p2), (4, .int p3)]) hx hb dX8_setRates_5 hl (by decide) rfl (fun ls hl => ?_)
  refine lv_iload_n hx hb dX8_setRates_7 rfl (lv_at hl 3 rfl) ?_
  refine fw_tSv hx hb hml hown hts hE hw htab hlocks [.int p1] [] (c_X8_checkWeek l D A y sa f hfl p1) (va_cwS 1 hts gX8_setRates_X8_checkWeek rfl rfl rfl (by decide +kernel) ⟨Nat.le_of_ble_eq_true rfl, Nat.le_of_ble_eq_true rfl⟩) rfl hl.1 rfl (Nat.le_of_ble_eq_true rfl) dX8_setRates_8 ⟨Nat.le_of_ble_eq_true rfl, Nat.le_of_ble_eq_true rfl⟩ (fun E h => Or.inr ⟨h.1, (inr_nI (n := 2) (show rv ≤ 2 by omega) (by decide)), fun z => h.2 z.1⟩) (Nat.le_of_ble_eq_true rfl) (Nat.le_of_ble_eq_true rfl) (fun f5 H locs hp6 hw => ?_)
  obtain ⟨hin1, hp6b⟩ := hp6
  rw [hp6b] at hw
  obtain ⟨kv, hkv, rfl⟩ := inr_of (n := 30) (by decide) hin1
  refine lv_iload_n hx hb dX8_setRates_11 rfl (lv_at hl 4 rfl) ?_
  refine lv_iconst (v := 0) hx hb dX8_setRates_12 (by decide) ?_
  refine lv_sipush (v := 10000) hx hb dX8_setRates_13 (by decide) ?_
  refine fw_tSv hx hb hml hown hts hE hw htab hlocks [.int p2, .int 0, .int 10000] [] (c_X8_checkRange l D A y sa f hfl p2 0 10000) (va_cwS 3 hts gX8_setRates_X8_checkRange rfl rfl rfl (by decide +kernel) ⟨Nat.le_of_ble_eq_true rfl, Nat.le_of_ble_eq_true rfl⟩) rfl hl.1 rfl (Nat.le_of_ble_eq_true rfl) dX8_setRates_16 ⟨Nat.le_of_ble_eq_true rfl, Nat.le_of_ble_eq_true rfl⟩ (fun E h => Or.inr ⟨h.1, (inr_nI (n := 2) (show rv ≤ 2 by omega) (by decide)), fun z => h.2 z.2.1⟩) (Nat.le_of_ble_eq_true rfl) (Nat.le_of_ble_eq_true rfl) (fun f8 H locs hp9 hw => ?_)
  obtain ⟨hin2, hp9b⟩ := hp9
  rw [hp9b] at hw
  refine lv_iload hx hb dX8_setRates_19 (lv_at hl 5 rfl) ?_
  refine lv_iconst (v := 0) hx hb dX8_setRates_21 (by decide) ?_
  refine lv_sipush (v := 10000) hx hb dX8_setRates_22 (by decide) ?_
  refine fw_tSv hx hb hml hown hts hE hw htab hlocks [.int p3, .int 0, .int 10000] [] (c_X8_checkRange l D A y sa f hfl p3 0 10000) (va_cwS 3 hts gX8_setRates_X8_checkRange rfl rfl rfl (by decide +kernel) ⟨Nat.le_of_ble_eq_true rfl, Nat.le_of_ble_eq_true rfl⟩) rfl hl.1 rfl (Nat.le_of_ble_eq_true rfl) dX8_setRates_25 ⟨Nat.le_of_ble_eq_true rfl, Nat.le_of_ble_eq_true rfl⟩ (fun E h => Or.inr ⟨h.1, (inr_nI (n := 2) (show rv ≤ 2 by omega) (by decide)), fun z => h.2 z.2.2⟩) (Nat.le_of_ble_eq_true rfl) (Nat.le_of_ble_eq_true rfl) (fun f11 H locs hp12 hw => ?_)
  obtain ⟨hin3, hp12b⟩ := hp12
  rw [hp12b] at hw
  refine lv_aload hx hb dX8_setRates_28 (lv_at hl 0 rfl) ?_
  refine fw_get hx hb hts hown hE.1.1 hw (ci := 2) (fs := [.ref (α 2 rv 1), .ref (α 2 rv 4)]) (v := .ref (α 2 rv 1)) (hR.r0 hrv) iX8_setRates_2 rfl 0 (by decide) rfl (by decide +kernel) dX8_setRates_30 ?_
  refine lv_iload_n hx hb dX8_setRates_33 rfl (lv_at hl 3 rfl) ?_
  refine fw_callVi hx hb hml hown hts hE hw [.int (nI kv)] [] (c_X3_inWeek l D A y sa f (α 2 rv 1) (α 2 rv 2) (α 2 rv 3) kv (κ 2 (2 * rv)) (by omega) (hR.r1 hrv) (hR.r2 hrv)) (cwV 1 hts gX8_setRates_X3_inWeek rfl rfl rfl (by decide +kernel) ⟨Nat.le_of_ble_eq_true rfl, Nat.le_of_ble_eq_true rfl⟩) (ci := 3) rfl rfl (hR.r1 hrv) rfl hl.1 rfl (Nat.le_of_ble_eq_true rfl) dX8_setRates_34 ⟨Nat.le_of_ble_eq_true rfl, Nat.le_of_ble_eq_true rfl⟩ (fun r13 f14 H locs hp15 hw => ?_)
  obtain ⟨hp15a, hp15b⟩ := hp15
  rw [hp15b] at hw
  rw [hp15a]
  refine lv_istore (lv' := [(6, .int (κ 2 (2 * rv) kv)), (5, .ref (α 2 rv 0)), (0, .ref (α 0 0 0)), (1, .int (nI rv)), (2, .int (nI kv)), (3, .int p2), (4, .int p3)]) hx hb dX8_setRates_37 hl (by decide) rfl (fun ls hl => ?_)
  refine lv_aload hx hb dX8_setRates_39 (lv_at hl 1 rfl) ?_
  refine fw_get hx hb hts hown hE.1.1 hw (ci := 2) (fs := [.ref (α 2 rv 1), .ref (α 2 rv 4)]) (v := .ref (α 2 rv 1)) (hR.r0 hrv) iX8_setRates_2 rfl 0 (by decide) rfl (by decide +kernel) dX8_setRates_41 ?_
  refine lv_iload_n hx hb dX8_setRates_44 rfl (lv_at hl 4 rfl) ?_
  refine lv_iload_n hx hb dX8_setRates_45 rfl (lv_at hl 5 rfl) ?_
  refine fw_callVv hx hb hml hown hts hE hw [.int (nI kv), .int p2] [] (c_X3_tell l D A y sa f (α 2 rv 1) (α 2 rv 2) (α 2 rv 3) kv (κ 2 (2 * rv)) (κ 3 (2 * rv)) p2 (by omega) (fw_ne2 (hR.r1 hrv) (hR.r2 hrv) (by simp)) (fw_ne2 (hR.r1 hrv) (hR.r3 hrv) (by simp)) (hR.neD hrv) (hR.r1 hrv) (hR.r2 hrv) (hR.r3 hrv)) (cwV 2 hts gX8_setRates_X3_tell rfl rfl rfl (by decide +kernel) ⟨Nat.le_of_ble_eq_true rfl, Nat.le_of_ble_eq_true rfl⟩) (ci := 3) rfl rfl (hR.r1 hrv) rfl hl.1 rfl (Nat.le_of_ble_eq_true rfl) dX8_setRates_46 ⟨Nat.le_of_ble_eq_true rfl, Nat.le_of_ble_eq_true rfl⟩ (fun f17 H locs hp18 hw => ?_)
  have hR2 : Rc y nw no nt wk (tellK κ 2 3 (2 * rv) kv p2) α f17 := by rw [hp18]; exact (hR.setDT hrv _).setDV hrv _
  refine lv_aload hx hb dX8_setRates_49 (lv_at hl 1 rfl) ?_
  refine fw_get hx hb hts hown hE.1.1 hw (ci := 2) (fs := [.ref (α 2 rv 1), .ref (α 2 rv 4)]) (v := .ref (α 2 rv 4)) (hR2.r0 hrv) iX8_setRates_2 rfl 1 (by decide) rfl (by decide +kernel) dX8_setRates_51 ?_
  refine lv_iload_n hx hb dX8_setRates_54 rfl (lv_at hl 4 rfl) ?_
  refine lv_iload hx hb dX8_setRates_55 (lv_at hl 6 rfl) ?_
  refine fw_callVv hx hb hml hown hts hE hw [.int (nI kv), .int p3] [] (c_X3_tell l D A y sa f17 (α 2 rv 4) (α 2 rv 5) (α 2 rv 6) kv ((tellK κ 2 3 (2 * rv) kv p2) 2 (2 * rv + 1)) ((tellK κ 2 3 (2 * rv) kv p2) 3 (2 * rv + 1)) p3 (by omega) (fw_ne2 (hR2.r4 hrv) (hR2.r5 hrv) (by simp)) (fw_ne2 (hR2.r4 hrv) (hR2.r6 hrv) (by simp)) (hR2.neN hrv) (hR2.r4 hrv) (hR2.r5 hrv) (hR2.r6 hrv)) (cwV 2 hts gX8_setRates_X3_tell rfl rfl rfl (by decide +kernel) ⟨Nat.le_of_ble_eq_true rfl, Nat.le_of_ble_eq_true rfl⟩) (ci := 3) rfl rfl (hR2.r4 hrv) rfl hl.1 rfl (Nat.le_of_ble_eq_true rfl) dX8_setRates_57 ⟨Nat.le_of_ble_eq_true rfl, Nat.le_of_ble_eq_true rfl⟩ (fun f20 H locs hp21 hw => ?_)
  have hR3 : Rc y nw no nt wk (tellK (tellK κ 2 3 (2 * rv) kv p2) 2 3 (2 * rv + 1) kv p3) α f20 := by rw [hp21]; exact (hR2.setNT hrv _).setNV hrv _
  refine lv_iload hx hb dX8_setRates_60 (lv_at hl 0 rfl) ?_
  exact vx_ret (fw_iret hx hb hr hlocks hw (Nat.le_of_ble_eq_true rfl) (Nat.le_of_ble_eq_true rfl) dX8_setRates_62 (⟨rv, kv, hrv, hkv, rfl, rfl, hin2, hin3, rfl, hR3⟩))

theorem iX8_correct_4 : ∀ w ∈ wsX40, w ∈ wsX8_correct := by decide +kernel
set_option maxHeartbeats 4000000 in
set_option maxRecDepth 100000 in
/-- correct -/
theorem c_X8_correct (l : Launch) (D : va_G) (A : Nat → Prop) (y : Nat → ClassId) (sa : Nat → Nat) (f : fw_F) (hfl : l.stackTraces = false) (α : Nat → Nat → Nat → Nat) (κ : cS) (nw no nt wk : Nat) (p0 p1 p2 p3 : Int32) (hI : Ic nw no nt wk κ) (hR : Rc y nw no nt wk κ α f) : vx_Met l yX8_correct wsX8_correct ({ frames := 8, cells := 3, slots := 18, locals := 131 } : Room) (cPc D A y sa f [.ref (α 0 0 0), .int p0, .int p1, .int p2, .int p3]) (cQi D A (fun r f1 => ∃ w s, w < nw ∧ s ≤ 19 ∧ p0 = nI w ∧ p1 = nI s ∧ ¬ κ 7 w s = -1 ∧ inr p2 0 100 ∧ inr p3 0 100 ∧ r = κ 8 w s + κ 9 w s ∧ Rc y nw no nt wk (upF (upF κ 8 w (va_up (κ 8 w) s p2)) 9 w (va_up (upF κ 8 w (va_up (κ 8 w) s p2) 9 w) s p3)) α f1)) (cX D A f (fun E => (E = nIOB ∧ ¬ (∃ wv sv, wv < nw ∧ sv ≤ 19 ∧ p0 = nI wv ∧ p1 = nI sv ∧ ¬ κ 7 wv sv = -1)) ∨ (E = nIAE ∧ (∃ wv sv, wv < nw ∧ sv ≤ 19 ∧ p0 = nI wv ∧ p1 = nI sv ∧ ¬ κ 7 wv sv = -1) ∧ ¬ (inr p2 0 100 ∧ inr p3 0 100)))) 3 18 A := by
  refine fw_xmet (by decide) rfl [.ref (α 0 0 0), .int p0, .int p1, .int p2, .int p3] (Nat.le_of_ble_eq_true rfl) ?_
  intro p e s m args below meth c ls I htab hE hw hl
  obtain ⟨hx, hb, hr, hts, hown, hlocks, hml⟩ := I
  have hown : s.vm.findClass RX8 = some m.cls := hown
  have hl : lv_has ls 7 [(0, .ref (α 0 0 0)), (1, .int p0), (2, .int p1), (3, .int p2), (4, .int p3)] := hl
  obtain ⟨hI1, hI2, hI3, hI4, hI5, hI6, hI7, hI8, hI9, hI10⟩ := id hI
  refine lv_aload_n hx hb dX8_correct_0 rfl (lv_at hl 0 rfl) ?_
  refine lv_iload_n hx hb dX8_correct_1 rfl (lv_at hl 1 rfl) ?_
  refine fw_tVq hx hb hml hown hts hE hw htab hlocks [.int p0] [] (c_X8_workerOf l D A y sa f hfl α κ nw no nt wk p0 (by omega) hR) (cwV 1 hts gX8_correct_X8_workerOf rfl rfl rfl (by decide +kernel) ⟨Nat.le_of_ble_eq_true rfl, Nat.le_of_ble_eq_true rfl⟩) (ci := 8) rfl rfl hR.x rfl hl.1 rfl (Nat.le_of_ble_eq_true rfl) dX8_correct_2 ⟨Nat.le_of_ble_eq_true rfl, Nat.le_of_ble_eq_true rfl⟩ (fun E h => Or.inl ⟨h.1, fun ⟨w2, _, h1, _, h3, _, _⟩ => h.2 (by rw [h3]; exact inr_wI h1 (by omega))⟩) (Nat.le_of_ble_eq_true rfl) (Nat.le_of_ble_eq_true rfl) (fun r1 f2 H locs hp3 hw => ?_)
  obtain ⟨w, hwn, rfl, hp3a, hp3b⟩ := hp3
  rw [hp3b] at hw
  rw [hp3a]
  refine lv_iload_n hx hb dX8_correct_5 rfl (lv_at hl 2 rfl) ?_
  refine fw_callVq hx hb hml hown hts hE hw [.int p1] [] (c_X7_sheet l D A y sa f (α 3 w 0) (α 1 (κ 4 w 0).toNatClampNeg 0) (α 3 w 1) (α 3 w 4) (α 3 w 5) (κ 4 w 1) (κ 4 w 2) (κ 4 w 3) (κ 4 w 4) p1 (shRow κ α w) (hR.w0 hwn) (hR.w4 hwn)) (cwV 1 hts gX8_correct_X7_sheet rfl rfl rfl (by decide +kernel) ⟨Nat.le_of_ble_eq_true rfl, Nat.le_of_ble_eq_true rfl⟩) (ci := 7) rfl rfl (hR.w0 hwn) rfl hl.1 rfl (Nat.le_of_ble_eq_true rfl) dX8_correct_6 ⟨Nat.le_of_ble_eq_true rfl, Nat.le_of_ble_eq_true rfl⟩ (fun r4 f5 H locs hp6 hw => ?_)
  obtain ⟨hp6a, hp6b⟩ := hp6
  rw [hp6b] at hw
  by_cases hrg : (0 : Int32) ≤ p1 ∧ p1 < 20
  · rw [if_pos hrg] at hp6a
    obtain ⟨sv, hsv, rfl⟩ := ix_of (N := 20) (n := 20) (by decide) (Int32.not_lt.mpr hrg.1) (Int32.not_le.mpr hrg.2)
    rw [nI_clamp (n := sv) (by omega)] at hp6a
    by_cases hs : κ 7 w sv = -1
    · rw [hp6a, show shRow κ α w sv = none from if_neg (fun z => z.2 hs)]
      refine lv_astoreN (lv' := [(5, .null), (0, .ref (α 0 0 0)), (1, .int (nI w)), (2, .int (nI sv)), (3, .int p2), (4, .int p3)]) hx hb dX8_correct_9 hl (by decide) rfl (fun ls hl => ?_)
      refine lv_aloadN hx hb dX8_correct_11 (lv_at hl 0 rfl) ?_
      refine lv_ifnonnullN hx hb dX8_correct_13 ?_
      exact fw_throw (ic := 129) (ik := 125) (is := 127) (cls := nIOB) (text := "no such sheet has come") hx hb hfl hts hown hE hw htab hlocks thIOB (fun w h => List.mem_cons_of_mem _ (List.mem_append_left _ (List.mem_append_right _ h))) (by decide +kernel) (by decide +kernel) (by decide +kernel) (hl.1.trans hml.symm) dX8_correct_16 dX8_correct_19 dX8_correct_20 dX8_correct_22 dX8_correct_25 (Nat.le_of_ble_eq_true rfl) (Nat.le_of_ble_eq_true rfl) (Nat.le_of_ble_eq_true rfl) (Nat.le_of_ble_eq_true rfl) (Or.inl ⟨rfl, fun ⟨w2, s2, h1, h2, h3, h4, h5⟩ => h5 (by rw [← nI_inj2 h3 (by omega) (by omega), ← nI_inj2 h4 (by omega) (by omega)]; exact hs)⟩) (Nat.le_of_ble_eq_true rfl) (Nat.le_of_ble_eq_true rfl)
    · rw [hp6a, show shRow κ α w sv = some (α 4 w sv) from if_pos ⟨hsv, hs⟩]
      refine lv_astore (lv' := [(5, .ref (α 4 w sv)), (0, .ref (α 0 0 0)), (1, .int (nI w)), (2, .int (nI sv)), (3, .int p2), (4, .int p3)]) hx hb dX8_correct_9 hl (by decide) rfl (fun ls hl => ?_)
      refine lv_aload hx hb dX8_correct_11 (lv_at hl 0 rfl) ?_
      refine lv_ifnonnull (tgt := 26) hx hb dX8_correct_13 (by decide) ?_
      refine lv_iload_n hx hb dX8_correct_26 rfl (lv_at hl 4 rfl) ?_
      refine lv_iload hx hb dX8_correct_27 (lv_at hl 5 rfl) ?_
      refine fw_tSv hx hb hml hown hts hE hw htab hlocks [.int p2, .int p3] [] (c_X8_checkHours l D A y sa f hfl p2 p3) (va_cwS 2 hts gX8_correct_X8_checkHours rfl rfl rfl (by decide +kernel) ⟨Nat.le_of_ble_eq_true rfl, Nat.le_of_ble_eq_true rfl⟩) rfl hl.1 rfl (Nat.le_of_ble_eq_true rfl) dX8_correct_29 ⟨Nat.le_of_ble_eq_true rfl, Nat.le_of_ble_eq_true rfl⟩ (fun E h => Or.inr ⟨h.1, ⟨w, sv, hwn, by omega, rfl, rfl, hs⟩, h.2⟩) (Nat.le_of_ble_eq_true rfl) (Nat.le_of_ble_eq_true rfl) (fun f8 H locs hp9 hw => ?_)
      obtain ⟨hhr, hp9b⟩ := hp9
      rw [hp9b] at hw
      refine lv_aload hx hb dX8_correct_32 (lv_at hl 0 rfl) ?_
      refine fw_get hx hb hts hown hE.1.1 hw (ci := 4) (fs := [.int (κ 7 w sv), .int (κ 8 w sv), .int (κ 9 w sv)]) (v := .int (κ 8 w sv)) (hR.sh hwn hsv hs) iX8_correct_4 rfl 1 (by decide) rfl (by decide +kernel) dX8_correct_34 ?_
      refine lv_aload hx hb dX8_correct_37 (lv_at hl 0 rfl) ?_
      refine fw_get hx hb hts hown hE.1.1 hw (ci := 4) (fs := [.int (κ 7 w sv), .int (κ 8 w sv), .int (κ 9 w sv)]) (v := .int (κ 9 w sv)) (hR.sh hwn hsv hs) iX8_correct_4 rfl 2 (by decide) rfl (by decide +kernel) dX8_correct_39 ?_
      refine lv_iadd hx hb dX8_correct_42 ?_
      refine lv_istore (lv' := [(6, .int ((κ 8 w sv) + (κ 9 w sv))), (5, .ref (α 4 w sv)), (0, .ref (α 0 0 0)), (1, .int (nI w)), (2, .int (nI sv)), (3, .int p2), (4, .int p3)]) hx hb dX8_correct_43 hl (by decide) rfl (fun ls hl => ?_)
      refine lv_aload hx hb dX8_correct_45 (lv_at hl 1 rfl) ?_
      refine lv_iload_n hx hb dX8_correct_47 rfl (lv_at hl 5 rfl) ?_
      refine fw_put hx hb hts hown hE.1.1 hw (ci := 4) (fs := [.int (κ 7 w sv), .int (κ 8 w sv), .int (κ 9 w sv)]) (v := .int p2) (hR.sh hwn hsv hs) iX8_correct_4 tyX4 tyX4_ok nmX4 rfl 1 (by decide) rfl rfl rfl (Nat.le_of_ble_eq_true rfl) (by decide +kernel) dX8_correct_48 (fun H locs hw => ?_)
      obtain ⟨f10, ef10⟩ : ∃ z, z = fw_up f (α 4 w sv) (.inr (4, [.int (κ 7 w sv), .int p2, .int (κ 9 w sv)])) := ⟨_, rfl⟩
      have hw : fw_S D A s.heap f10 H locs := by rw [ef10]; exact hw
      have h11 : f10 (α 0 0 0) = some (.inr (8, [.ref (α 0 0 1), .ref (α 0 0 2), .ref (α 0 0 3), .ref (α 0 0 4), .ref (α 0 0 5), .int (nI nw), .int (nI no), .int (nI nt), .int (κ 0 0 0), .int (nI wk)])) := by rw [ef10]; exact (fw_up_n (fw_ne2 hR.x (hR.sh hwn hsv hs) (by simp))).trans hR.x
      have h12 : f10 (α 3 w 0) = some (.inr (7, [.ref (α 1 (κ 4 w 0).toNatClampNeg 0), .ref (α 3 w 1), .int (κ 4 w 1), .int (κ 4 w 2), .int (κ 4 w 3), .int (κ 4 w 4), .ref (α 3 w 4), .ref (α 3 w 5)])) := by rw [ef10]; exact (fw_up_n (fw_ne2 (hR.w0 hwn) (hR.sh hwn hsv hs) (by simp))).trans (hR.w0 hwn)
      have h13 : f10 (α 4 w sv) = some (.inr (4, [.int (κ 7 w sv), .int p2, .int (κ 9 w sv)])) := by rw [ef10]; exact fw_up_s
      refine lv_aload hx hb dX8_correct_51 (lv_at hl 1 rfl) ?_
      refine lv_iload hx hb dX8_correct_53 (lv_at hl 6 rfl) ?_
      refine fw_put hx hb hts hown hE.1.1 hw (ci := 4) (fs := [.int (κ 7 w sv), .int p2, .int (κ 9 w sv)]) (v := .int p3) h13 iX8_correct_4 tyX4 tyX4_ok nmX4 rfl 2 (by decide) rfl rfl rfl (Nat.le_of_ble_eq_true rfl) (by decide +kernel) dX8_correct_55 (fun H locs hw => ?_)
      obtain ⟨f14, ef14⟩ : ∃ z, z = fw_up f10 (α 4 w sv) (.inr (4, [.int (κ 7 w sv), .int p2, .int p3])) := ⟨_, rfl⟩
      have hw : fw_S D A s.heap f14 H locs := by rw [ef14]; exact hw
      have h15 : f14 (α 0 0 0) = some (.inr (8, [.ref (α 0 0 1), .ref (α 0 0 2), .ref (α 0 0 3), .ref (α 0 0 4), .ref (α 0 0 5), .int (nI nw), .int (nI no), .int (nI nt), .int (κ 0 0 0), .int (nI wk)])) := by rw [ef14]; exact (fw_up_n (fw_ne2 h11 h13 (by simp))).trans h11
      have h16 : f14 (α 3 w 0) = some (.inr (7, [.ref (α 1 (κ 4 w 0).toNatClampNeg 0), .ref (α 3 w 1), .int (κ 4 w 1), .int (κ 4 w 2), .int (κ 4 w 3), .int (κ 4 w 4), .ref (α 3 w 4), .ref (α 3 w 5)])) := by rw [ef14]; exact (fw_up_n (fw_ne2 h12 h13 (by simp))).trans h12
      have h17 : f14 (α 4 w sv) = some (.inr (4, [.int (κ 7 w sv), .int p2, .int p3])) := by rw [ef14]; exact fw_up_s
      refine lv_iload hx hb dX8_correct_58 (lv_at hl 0 rfl) ?_
      exact vx_ret (fw_iret hx hb hr hlocks hw (Nat.le_of_ble_eq_true rfl) (Nat.le_of_ble_eq_true rfl) dX8_correct_60 (⟨w, sv, hwn, by omega, rfl, rfl, hs, hhr.1, hhr.2, rfl, by rw [ef14, ef10, fw_up_up]; exact hR.setS hwn hsv hs p2 p3⟩))
  · rw [if_neg hrg] at hp6a
    rw [hp6a]
    refine lv_astoreN (lv' := [(5, .null), (0, .ref (α 0 0 0)), (1, .int (nI w)), (2, .int p1), (3, .int p2), (4, .int p3)]) hx hb dX8_correct_9 hl (by decide) rfl (fun ls hl => ?_)
    refine lv_aloadN hx hb dX8_correct_11 (lv_at hl 0 rfl) ?_
    refine lv_ifnonnullN hx hb dX8_correct_13 ?_
    exact fw_throw (ic := 129) (ik := 125) (is := 127) (cls := nIOB) (text := "no such sheet has come") hx hb hfl hts hown hE hw htab hlocks thIOB (fun w h => List.mem_cons_of_mem _ (List.mem_append_left _ (List.mem_append_right _ h))) (by decide +kernel) (by decide +kernel) (by decide +kernel) (hl.1.trans hml.symm) dX8_correct_16 dX8_correct_19 dX8_correct_20 dX8_correct_22 dX8_correct_25 (Nat.le_of_ble_eq_true rfl) (Nat.le_of_ble_eq_true rfl) (Nat.le_of_ble_eq_true rfl) (Nat.le_of_ble_eq_true rfl) (Or.inl ⟨rfl, fun ⟨_, sv, _, h2, _, h4, _⟩ => hrg (by rw [h4]; exact ⟨nI_pos' (by omega), nI_lt (b := 20) (by omega) (by decide)⟩)⟩) (Nat.le_of_ble_eq_true rfl) (Nat.le_of_ble_eq_true rfl)

theorem iX8_bounce_1 : ∀ w ∈ wsX10, w ∈ wsX8_bounce := by decide +kernel
theorem iX8_bounce_6 : ∀ w ∈ wsX60, w ∈ wsX8_bounce := by decide +kernel
theorem iX8_bounce_8 : ∀ w ∈ wsX80, w ∈ wsX8_bounce := by decide +kernel
set_option maxHeartbeats 4000000 in
set_option maxRecDepth 100000 in
/-- bounce -/
theorem c_X8_bounce (l : Launch) (D : va_G) (A : Nat → Prop) (y : Nat → ClassId) (sa : Nat → Nat) (f : fw_F) (hfl : l.stackTraces = false) (α : Nat → Nat → Nat → Nat) (κ : cS) (nw no nt wk : Nat) (p0 : Int32) (hI : Ic nw no nt wk κ) (hR : Rc y nw no nt wk κ α f) : vx_Met l yX8_bounce wsX8_bounce ({ frames := 6, cells := 1, slots := 6, locals := 88 } : Room) (cPc D A y sa f [.ref (α 0 0 0), .int p0]) (cQi D A (fun r f1 => ∃ j ev, j < nt ∧ ev < 3 ∧ p0 = nI j ∧ κ 16 j 0 = nI ev ∧ κ 16 j 2 = 0 ∧ r = κ 1 ev 1 + (κ 16 j 1 - (if κ 16 j 1 < κ 1 ev 0 then κ 16 j 1 else κ 1 ev 0)) ∧ Rc y nw no nt wk (upF (upF κ 16 j (va_up (κ 16 j) 2 1)) 1 ev (va_up (va_up ((upF κ 16 j (va_up (κ 16 j) 2 1)) 1 ev) 0 (κ 1 ev 0 - (if κ 16 j 1 < κ 1 ev 0 then κ 16 j 1 else κ 1 ev 0))) 1 (κ 1 ev 1 + (κ 16 j 1 - (if κ 16 j 1 < κ 1 ev 0 then κ 16 j 1 else κ 1 ev 0))))) α f1)) (cX D A f (fun E => (E = nIOB ∧ ¬ inr p0 0 (nI nt - 1)) ∨ (E = nISE ∧ ∃ t, t < nt ∧ p0 = nI t ∧ ¬ κ 16 t 2 = 0))) 1 6 A := by
  refine fw_xmet (by decide) rfl [.ref (α 0 0 0), .int p0] (Nat.le_of_ble_eq_true rfl) ?_
  intro p e s m args below meth c ls I htab hE hw hl
  obtain ⟨hx, hb, hr, hts, hown, hlocks, hml⟩ := I
  have hown : s.vm.findClass RX8 = some m.cls := hown
  have hl : lv_has ls 3 [(0, .ref (α 0 0 0)), (1, .int p0)] := hl
  obtain ⟨hI1, hI2, hI3, hI4, hI5, hI6, hI7, hI8, hI9, hI10⟩ := id hI
  refine lv_iload_n hx hb dX8_bounce_0 rfl (lv_at hl 1 rfl) ?_
  refine lv_if_lt (tgt := 22) hx hb dX8_bounce_1 (by decide) (fun c_1 => ?_) (fun c_1 => ?_)
  · refine lv_null hx hb dX8_bounce_22 ?_
    refine lv_astore_nN (lv' := [(2, .null), (0, .ref (α 0 0 0)), (1, .int p0)]) hx hb dX8_bounce_23 rfl hl (by decide) rfl (fun ls hl => ?_)
    refine lv_aload_nN hx hb dX8_bounce_24 rfl (lv_at hl 0 rfl) ?_
    refine lv_ifnonnullN hx hb dX8_bounce_25 ?_
    exact fw_throw (ic := 129) (ik := 125) (is := 158) (cls := nIOB) (text := "no such transfer") hx hb hfl hts hown hE hw htab hlocks thIOB (fun w h => List.mem_cons_of_mem _ (List.mem_append_left _ (List.mem_append_right _ h))) (by decide +kernel) (by decide +kernel) (by decide +kernel) (hl.1.trans hml.symm) dX8_bounce_28 dX8_bounce_31 dX8_bounce_32 dX8_bounce_34 dX8_bounce_37 (Nat.le_of_ble_eq_true rfl) (Nat.le_of_ble_eq_true rfl) (Nat.le_of_ble_eq_true rfl) (Nat.le_of_ble_eq_true rfl) (Or.inl (⟨rfl, fun z => absurd c_1 (Int32.not_lt.mpr z.1)⟩)) (Nat.le_of_ble_eq_true rfl) (Nat.le_of_ble_eq_true rfl)
  · refine lv_iload_n hx hb dX8_bounce_4 rfl (lv_at hl 1 rfl) ?_
    refine lv_aload_n hx hb dX8_bounce_5 rfl (lv_at hl 0 rfl) ?_
    refine fw_get hx hb hts hown hE.1.1 hw (ci := 8) (fs := [.ref (α 0 0 1), .ref (α 0 0 2), .ref (α 0 0 3), .ref (α 0 0 4), .ref (α 0 0 5), .int (nI nw), .int (nI no), .int (nI nt), .int (κ 0 0 0), .int (nI wk)]) (v := .ref (α 0 0 5)) hR.x iX8_bounce_8 rfl 4 (by decide) rfl (by decide +kernel) dX8_bounce_6 ?_
    refine fw_alen hx hb hE.1.1 hw hR.x5 7 rfl (v := 40) rfl dX8_bounce_9 ?_
    refine lv_icmp_ge (tgt := 22) hx hb dX8_bounce_10 (by decide) (fun c_2 => ?_) (fun c_2 => ?_)
    · refine lv_null hx hb dX8_bounce_22 ?_
      refine lv_astore_nN (lv' := [(2, .null), (0, .ref (α 0 0 0)), (1, .int p0)]) hx hb dX8_bounce_23 rfl hl (by decide) rfl (fun ls hl => ?_)
      refine lv_aload_nN hx hb dX8_bounce_24 rfl (lv_at hl 0 rfl) ?_
      refine lv_ifnonnullN hx hb dX8_bounce_25 ?_
      exact fw_throw (ic := 129) (ik := 125) (is := 158) (cls := nIOB) (text := "no such transfer") hx hb hfl hts hown hE hw htab hlocks thIOB (fun w h => List.mem_cons_of_mem _ (List.mem_append_left _ (List.mem_append_right _ h))) (by decide +kernel) (by decide +kernel) (by decide +kernel) (hl.1.trans hml.symm) dX8_bounce_28 dX8_bounce_31 dX8_bounce_32 dX8_bounce_34 dX8_bounce_37 (Nat.le_of_ble_eq_true rfl) (Nat.le_of_ble_eq_true rfl) (Nat.le_of_ble_eq_true rfl) (Nat.le_of_ble_eq_true rfl) (Or.inl (⟨rfl, fun z => by obtain ⟨j, h1, rfl⟩ := inr_w (by omega) z; exact absurd c_2 (nI_ge (b := 40) (by omega) (by decide))⟩)) (Nat.le_of_ble_eq_true rfl) (Nat.le_of_ble_eq_true rfl)
    · refine lv_aload_n hx hb dX8_bounce_13 rfl (lv_at hl 0 rfl) ?_
      refine fw_get hx hb hts hown hE.1.1 hw (ci := 8) (fs := [.ref (α 0 0 1), .ref (α 0 0 2), .ref (α 0 0 3), .ref (α 0 0 4), .ref (α 0 0 5), .int (nI nw), .int (nI no), .int (nI nt), .int (κ 0 0 0), .int (nI wk)]) (v := .ref (α 0 0 5)) hR.x iX8_bounce_8 rfl 4 (by decide) rfl (by decide +kernel) dX8_bounce_14 ?_
      refine lv_iload_n hx hb dX8_bounce_17 rfl (lv_at hl 1 rfl) ?_
      obtain ⟨j, hj8, rfl⟩ := ix_of (n := 40) (by decide) c_1 c_2
      refine fw_aald hx hb hE.1.1 hw (g := (fun e => if e < nt then some (α 7 e 0) else none)) hR.x5 7 rfl (vp_in_nI hj8 (by decide)) dX8_bounce_18 ?_
      rw [nI_clamp (n := j) (by omega)]
      rcases Nat.lt_or_ge j nt with hj | hj
      · rw [if_pos hj]
        refine lv_goto (tgt := 23) hx hb dX8_bounce_19 (by decide) ?_
        refine lv_astore_n (lv' := [(2, .ref (α 7 j 0)), (0, .ref (α 0 0 0)), (1, .int (nI j))]) hx hb dX8_bounce_23 rfl hl (by decide) rfl (fun ls hl => ?_)
        refine lv_aload_n hx hb dX8_bounce_24 rfl (lv_at hl 0 rfl) ?_
        refine lv_ifnonnull (tgt := 38) hx hb dX8_bounce_25 (by decide) ?_
        obtain ⟨ev, hev, he⟩ := hI10 j hj
        have hTr : f (α 7 j 0) = some (.inr (6, [.ref (α 1 ev 0), .int (κ 16 j 1), .int (κ 16 j 2)])) := by have z := hR.t hj; rw [he, nI_clamp (n := ev) (by omega)] at z; exact z
        refine lv_aload_n hx hb dX8_bounce_38 rfl (lv_at hl 0 rfl) ?_
        refine fw_get hx hb hts hown hE.1.1 hw (ci := 6) (fs := [.ref (α 1 ev 0), .int (κ 16 j 1), .int (κ 16 j 2)]) (v := .int (κ 16 j 2)) hTr iX8_bounce_6 rfl 2 (by decide) rfl (by decide +kernel) dX8_bounce_39 ?_
        refine lv_if_eq (tgt := 55) hx hb dX8_bounce_42 (by decide) (fun c_3 => ?_) (fun c_3 => ?_)
        · refine lv_aload_n hx hb dX8_bounce_55 rfl (lv_at hl 0 rfl) ?_
          refine lv_iconst (v := 1) hx hb dX8_bounce_56 (by decide) ?_
          refine fw_put hx hb hts hown hE.1.1 hw (ci := 6) (fs := [.ref (α 1 ev 0), .int (κ 16 j 1), .int (κ 16 j 2)]) (v := .int 1) hTr iX8_bounce_6 tyX6 tyX6_ok nmX6 rfl 2 (by decide) rfl (by decide +kernel) rfl (Nat.le_of_ble_eq_true rfl) (by decide +kernel) dX8_bounce_57 (fun H locs hw => ?_)
          obtain ⟨f4, ef4⟩ : ∃ z, z = fw_up f (α 7 j 0) (.inr (6, [.ref (α 1 ev 0), .int (κ 16 j 1), .int 1])) := ⟨_, rfl⟩
          have hw : fw_S D A s.heap f4 H locs := by rw [ef4]; exact hw
          have h5 : f4 (α 0 0 0) = some (.inr (8, [.ref (α 0 0 1), .ref (α 0 0 2), .ref (α 0 0 3), .ref (α 0 0 4), .ref (α 0 0 5), .int (nI nw), .int (nI no), .int (nI nt), .int (κ 0 0 0), .int (nI wk)])) := by rw [ef4]; exact (fw_up_n (fw_ne2 hR.x hTr (by simp))).trans hR.x
          have h6 : f4 (α 0 0 5) = some (.inl (y 7, 40, .inr (.inr (.inr (.inr (fun e => if e < nt then some (α 7 e 0) else none)))))) := by rw [ef4]; exact (fw_up_n (fw_ne2 hR.x5 hTr (by simp))).trans hR.x5
          have h7 : f4 (α 1 ev 0) = some (.inr (1, [.int (κ 1 ev 0), .int (κ 1 ev 1)])) := by rw [ef4]; exact (fw_up_n (fw_ne2 (hR.p hev) hTr (by simp))).trans (hR.p hev)
          have h8 : f4 (α 7 j 0) = some (.inr (6, [.ref (α 1 ev 0), .int (κ 16 j 1), .int 1])) := by rw [ef4]; exact fw_up_s
          refine lv_aload_n hx hb dX8_bounce_60 rfl (lv_at hl 0 rfl) ?_
          refine fw_get hx hb hts hown hE.1.1 hw (ci := 6) (fs := [.ref (α 1 ev 0), .int (κ 16 j 1), .int 1]) (v := .ref (α 1 ev 0)) h8 iX8_bounce_6 rfl 0 (by decide) rfl (by decide +kernel) dX8_bounce_61 ?_
          refine lv_aload_n hx hb dX8_bounce_64 rfl (lv_at hl 0 rfl) ?_
          refine fw_get hx hb hts hown hE.1.1 hw (ci := 6) (fs := [.ref (α 1 ev 0), .int (κ 16 j 1), .int 1]) (v := .int (κ 16 j 1)) h8 iX8_bounce_6 rfl 1 (by decide) rfl (by decide +kernel) dX8_bounce_65 ?_
          refine fw_callVv hx hb hml hown hts hE hw [.int (κ 16 j 1)] [] (c_X1_lose l D A y sa f4 (α 1 ev 0) (κ 1 ev 0) (κ 1 ev 1) (κ 16 j 1) h7) (cwV 1 hts gX8_bounce_X1_lose rfl rfl rfl (by decide +kernel) ⟨Nat.le_of_ble_eq_true rfl, Nat.le_of_ble_eq_true rfl⟩) (ci := 1) rfl rfl h7 rfl hl.1 rfl (Nat.le_of_ble_eq_true rfl) dX8_bounce_68 ⟨Nat.le_of_ble_eq_true rfl, Nat.le_of_ble_eq_true rfl⟩ (fun f10 H locs hp11 hw => ?_)
          have ef10 := hp11
          have h12 : f10 (α 0 0 0) = some (.inr (8, [.ref (α 0 0 1), .ref (α 0 0 2), .ref (α 0 0 3), .ref (α 0 0 4), .ref (α 0 0 5), .int (nI nw), .int (nI no), .int (nI nt), .int (κ 0 0 0), .int (nI wk)])) := by rw [ef10, fw_up_n (fw_ne2 h5 h7 (by simp))]; exact h5
          have h13 : f10 (α 0 0 5) = some (.inl (y 7, 40, .inr (.inr (.inr (.inr (fun e => if e < nt then some (α 7 e 0) else none)))))) := by rw [ef10, fw_up_n (fw_ne2 h6 h7 (by simp))]; exact h6
          have h14 : f10 (α 7 j 0) = some (.inr (6, [.ref (α 1 ev 0), .int (κ 16 j 1), .int 1])) := by rw [ef10, fw_up_n (Ne.symm (fw_ne2 (hR.p hev) hTr (by simp)))]; exact h8
          have h15 : f10 (α 1 ev 0) = some (.inr (1, [.int (κ 1 ev 0 - (if κ 16 j 1 < κ 1 ev 0 then κ 16 j 1 else κ 1 ev 0)), .int (κ 1 ev 1 + (κ 16 j 1 - (if κ 16 j 1 < κ 1 ev 0 then κ 16 j 1 else κ 1 ev 0)))])) := by rw [ef10]; exact fw_up_s
          refine lv_aload_n hx hb dX8_bounce_71 rfl (lv_at hl 0 rfl) ?_
          refine fw_get hx hb hts hown hE.1.1 hw (ci := 6) (fs := [.ref (α 1 ev 0), .int (κ 16 j 1), .int 1]) (v := .ref (α 1 ev 0)) h14 iX8_bounce_6 rfl 0 (by decide) rfl (by decide +kernel) dX8_bounce_72 ?_
          refine fw_get hx hb hts hown hE.1.1 hw (ci := 1) (fs := [.int (κ 1 ev 0 - (if κ 16 j 1 < κ 1 ev 0 then κ 16 j 1 else κ 1 ev 0)), .int (κ 1 ev 1 + (κ 16 j 1 - (if κ 16 j 1 < κ 1 ev 0 then κ 16 j 1 else κ 1 ev 0)))]) (v := .int (κ 1 ev 1 + (κ 16 j 1 - (if κ 16 j 1 < κ 1 ev 0 then κ 16 j 1 else κ 1 ev 0)))) h15 iX8_bounce_1 rfl 1 (by decide) rfl (by decide +kernel) dX8_bounce_75 ?_
          exact vx_ret (fw_iret hx hb hr hlocks hw (Nat.le_of_ble_eq_true rfl) (Nat.le_of_ble_eq_true rfl) dX8_bounce_78 (⟨j, ev, hj, hev, rfl, he, c_3, rfl, by rw [ef10, ef4]; have z := hR.setT hj 1; rw [he, nI_clamp (n := ev) (by omega)] at z; exact z.setP hev _ _⟩))
        · exact fw_throw (ic := 65) (ik := 61) (is := 164) (cls := nISE) (text := "the transfer has bounced") hx hb hfl hts hown hE hw htab hlocks thISE (fun w h => List.mem_cons_of_mem _ (List.mem_append_right _ h)) (by decide +kernel) (by decide +kernel) (by decide +kernel) (hl.1.trans hml.symm) dX8_bounce_45 dX8_bounce_48 dX8_bounce_49 dX8_bounce_51 dX8_bounce_54 (Nat.le_of_ble_eq_true rfl) (Nat.le_of_ble_eq_true rfl) (Nat.le_of_ble_eq_true rfl) (Nat.le_of_ble_eq_true rfl) (Or.inr ⟨rfl, j, hj, rfl, c_3⟩) (Nat.le_of_ble_eq_true rfl) (Nat.le_of_ble_eq_true rfl)
      · rw [if_neg (Nat.not_lt.mpr hj)]
        refine lv_goto (tgt := 23) hx hb dX8_bounce_19 (by decide) ?_
        refine lv_astore_nN (lv' := [(2, .null), (0, .ref (α 0 0 0)), (1, .int (nI j))]) hx hb dX8_bounce_23 rfl hl (by decide) rfl (fun ls hl => ?_)
        refine lv_aload_nN hx hb dX8_bounce_24 rfl (lv_at hl 0 rfl) ?_
        refine lv_ifnonnullN hx hb dX8_bounce_25 ?_
        exact fw_throw (ic := 129) (ik := 125) (is := 158) (cls := nIOB) (text := "no such transfer") hx hb hfl hts hown hE hw htab hlocks thIOB (fun w h => List.mem_cons_of_mem _ (List.mem_append_left _ (List.mem_append_right _ h))) (by decide +kernel) (by decide +kernel) (by decide +kernel) (hl.1.trans hml.symm) dX8_bounce_28 dX8_bounce_31 dX8_bounce_32 dX8_bounce_34 dX8_bounce_37 (Nat.le_of_ble_eq_true rfl) (Nat.le_of_ble_eq_true rfl) (Nat.le_of_ble_eq_true rfl) (Nat.le_of_ble_eq_true rfl) (Or.inl (⟨rfl, fun z => by obtain ⟨j2, h1, h2⟩ := inr_w (by omega) z; have := nI_inj2 h2 (by omega) (by omega); omega⟩)) (Nat.le_of_ble_eq_true rfl) (Nat.le_of_ble_eq_true rfl)
