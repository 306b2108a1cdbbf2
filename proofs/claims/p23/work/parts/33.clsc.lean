theorem slRow_some {κ : cS} {α : Nat → Nat → Nat → Nat} {w k q : Nat} (h : slRow κ α w k = some q) : k < 31 ∧ κ 10 w k = 1 ∧ q = α 5 w k := by
  unfold slRow at h
  by_cases z : k < 31 ∧ κ 10 w k = 1
  · rw [if_pos z] at h
    exact ⟨z.1, z.2, (Option.some.inj h).symm⟩
  · rw [if_neg z] at h
    cases h
def spC (κ : cS) (w k p : Nat) : Int32 := if κ 10 w k = 1 then κ (11 + p) w k else 0
theorem slRow_is {κ : cS} {α : Nat → Nat → Nat → Nat} {w k : Nat} (hk : k < 31) (v : Int32) : (if (slRow κ α w k).isSome = true then v else 0) = (if κ 10 w k = 1 then v else 0) := by
  unfold slRow
  by_cases z : κ 10 w k = 1
  · rw [if_pos (show k < 31 ∧ κ 10 w k = 1 from ⟨hk, z⟩), if_pos z]
    rfl
  · rw [if_neg (fun q : k < 31 ∧ κ 10 w k = 1 => z q.2), if_neg z]
    rfl
/-- v less all gross parts of the first n weeks -/
def ssC (κ : cS) (w : Nat) (v : Int32) : Nat → Int32
  | 0 => v
  | n + 1 => ssC κ w v n - spC κ w n 0
theorem iX8_acknowledged_7 : ∀ w ∈ wsX70, w ∈ wsX8_acknowledged := by decide +kernel
set_option maxHeartbeats 4000000 in
set_option maxRecDepth 100000 in
/-- acknowledged -/
theorem c_X8_acknowledged (l : Launch) (D : va_G) (A : Nat → Prop) (y : Nat → ClassId) (sa : Nat → Nat) (f : fw_F) (hfl : l.stackTraces = false) (α : Nat → Nat → Nat → Nat) (κ : cS) (nw no nt wk : Nat) (p0 : Int32) (hI : Ic nw no nt wk κ) (hR : Rc y nw no nt wk κ α f) : vx_Met l yX8_acknowledged wsX8_acknowledged ({ frames := 7, cells := 1, slots := 6, locals := 110 } : Room) (cPc D A y sa f [.ref (α 0 0 0), .int p0]) (cQi D A (fun r f1 => ∃ w, w < nw ∧ p0 = nI w ∧ r = κ 4 w 1 ∧ f1 = f)) (cX D A f (fun E => E = nIOB ∧ ¬ inr p0 0 (nI nw - 1))) 1 6 A := by
  refine fw_xmet (by decide) rfl [.ref (α 0 0 0), .int p0] (Nat.le_of_ble_eq_true rfl) ?_
  intro p e s m args below meth c ls I htab hE hw hl
  obtain ⟨hx, hb, hr, hts, hown, hlocks, hml⟩ := I
  have hown : s.vm.findClass RX8 = some m.cls := hown
  have hl : lv_has ls 2 [(0, .ref (α 0 0 0)), (1, .int p0)] := hl
  obtain ⟨hI1, hI2, hI3, hI4, hI5, hI6, hI7, hI8, hI9, hI10⟩ := id hI
  refine lv_aload_n hx hb dX8_acknowledged_0 rfl (lv_at hl 0 rfl) ?_
  refine lv_iload_n hx hb dX8_acknowledged_1 rfl (lv_at hl 1 rfl) ?_
  refine fw_tVq hx hb hml hown hts hE hw htab hlocks [.int p0] [] (c_X8_workerOf l D A y sa f hfl α κ nw no nt wk p0 (by omega) hR) (cwV 1 hts gX8_acknowledged_X8_workerOf rfl rfl rfl (by decide +kernel) ⟨Nat.le_of_ble_eq_true rfl, Nat.le_of_ble_eq_true rfl⟩) (ci := 8) rfl rfl hR.x rfl hl.1 rfl (Nat.le_of_ble_eq_true rfl) dX8_acknowledged_2 ⟨Nat.le_of_ble_eq_true rfl, Nat.le_of_ble_eq_true rfl⟩ (fun E h => h) (Nat.le_of_ble_eq_true rfl) (Nat.le_of_ble_eq_true rfl) (fun r1 f2 H locs hp3 hw => ?_)
  obtain ⟨w, hwn, rfl, hp3a, hp3b⟩ := hp3
  rw [hp3b] at hw
  rw [hp3a]
  refine fw_get hx hb hts hown hE.1.1 hw (ci := 7) (fs := [.ref (α 1 (κ 4 w 0).toNatClampNeg 0), .ref (α 3 w 1), .int (κ 4 w 1), .int (κ 4 w 2), .int (κ 4 w 3), .int (κ 4 w 4), .ref (α 3 w 4), .ref (α 3 w 5)]) (v := .int (κ 4 w 1)) (hR.w0 hwn) iX8_acknowledged_7 rfl 2 (by decide) rfl (by decide +kernel) dX8_acknowledged_5 ?_
  exact vx_ret (fw_iret hx hb hr hlocks hw (Nat.le_of_ble_eq_true rfl) (Nat.le_of_ble_eq_true rfl) dX8_acknowledged_8 (⟨w, hwn, rfl, rfl, rfl⟩))

theorem iX8_toTakeBack_7 : ∀ w ∈ wsX70, w ∈ wsX8_toTakeBack := by decide +kernel
set_option maxHeartbeats 4000000 in
set_option maxRecDepth 100000 in
/-- toTakeBack -/
theorem c_X8_toTakeBack (l : Launch) (D : va_G) (A : Nat → Prop) (y : Nat → ClassId) (sa : Nat → Nat) (f : fw_F) (hfl : l.stackTraces = false) (α : Nat → Nat → Nat → Nat) (κ : cS) (nw no nt wk : Nat) (p0 : Int32) (hI : Ic nw no nt wk κ) (hR : Rc y nw no nt wk κ α f) : vx_Met l yX8_toTakeBack wsX8_toTakeBack ({ frames := 7, cells := 1, slots := 6, locals := 110 } : Room) (cPc D A y sa f [.ref (α 0 0 0), .int p0]) (cQi D A (fun r f1 => ∃ w, w < nw ∧ p0 = nI w ∧ r = κ 4 w 3 ∧ f1 = f)) (cX D A f (fun E => E = nIOB ∧ ¬ inr p0 0 (nI nw - 1))) 1 6 A := by
  refine fw_xmet (by decide) rfl [.ref (α 0 0 0), .int p0] (Nat.le_of_ble_eq_true rfl) ?_
  intro p e s m args below meth c ls I htab hE hw hl
  obtain ⟨hx, hb, hr, hts, hown, hlocks, hml⟩ := I
  have hown : s.vm.findClass RX8 = some m.cls := hown
  have hl : lv_has ls 2 [(0, .ref (α 0 0 0)), (1, .int p0)] := hl
  obtain ⟨hI1, hI2, hI3, hI4, hI5, hI6, hI7, hI8, hI9, hI10⟩ := id hI
  refine lv_aload_n hx hb dX8_toTakeBack_0 rfl (lv_at hl 0 rfl) ?_
  refine lv_iload_n hx hb dX8_toTakeBack_1 rfl (lv_at hl 1 rfl) ?_
  refine fw_tVq hx hb hml hown hts hE hw htab hlocks [.int p0] [] (c_X8_workerOf l D A y sa f hfl α κ nw no nt wk p0 (by omega) hR) (cwV 1 hts gX8_toTakeBack_X8_workerOf rfl rfl rfl (by decide +kernel) ⟨Nat.le_of_ble_eq_true rfl, Nat.le_of_ble_eq_true rfl⟩) (ci := 8) rfl rfl hR.x rfl hl.1 rfl (Nat.le_of_ble_eq_true rfl) dX8_toTakeBack_2 ⟨Nat.le_of_ble_eq_true rfl, Nat.le_of_ble_eq_true rfl⟩ (fun E h => h) (Nat.le_of_ble_eq_true rfl) (Nat.le_of_ble_eq_true rfl) (fun r1 f2 H locs hp3 hw => ?_)
  obtain ⟨w, hwn, rfl, hp3a, hp3b⟩ := hp3
  rw [hp3b] at hw
  rw [hp3a]
  refine fw_get hx hb hts hown hE.1.1 hw (ci := 7) (fs := [.ref (α 1 (κ 4 w 0).toNatClampNeg 0), .ref (α 3 w 1), .int (κ 4 w 1), .int (κ 4 w 2), .int (κ 4 w 3), .int (κ 4 w 4), .ref (α 3 w 4), .ref (α 3 w 5)]) (v := .int (κ 4 w 3)) (hR.w0 hwn) iX8_toTakeBack_7 rfl 4 (by decide) rfl (by decide +kernel) dX8_toTakeBack_5 ?_
  exact vx_ret (fw_iret hx hb hr hlocks hw (Nat.le_of_ble_eq_true rfl) (Nat.le_of_ble_eq_true rfl) dX8_toTakeBack_8 (⟨w, hwn, rfl, rfl, rfl⟩))

set_option maxHeartbeats 4000000 in
set_option maxRecDepth 100000 in
/-- claim -/
theorem c_X8_claim (l : Launch) (D : va_G) (A : Nat → Prop) (y : Nat → ClassId) (sa : Nat → Nat) (f : fw_F) (hfl : l.stackTraces = false) (α : Nat → Nat → Nat → Nat) (κ : cS) (nw no nt wk : Nat) (p0 : Int32) (hI : Ic nw no nt wk κ) (hR : Rc y nw no nt wk κ α f) : vx_Met l yX8_claim wsX8_claim ({ frames := 7, cells := 1, slots := 6, locals := 110 } : Room) (cPc D A y sa f [.ref (α 0 0 0), .int p0]) (cQi D A (fun r f1 => ∃ w, w < nw ∧ p0 = nI w ∧ r = clC κ wk w ∧ f1 = f)) (cX D A f (fun E => E = nIOB ∧ ¬ inr p0 0 (nI nw - 1))) 1 6 A := by
  refine fw_xmet (by decide) rfl [.ref (α 0 0 0), .int p0] (Nat.le_of_ble_eq_true rfl) ?_
  intro p e s m args below meth c ls I htab hE hw hl
  obtain ⟨hx, hb, hr, hts, hown, hlocks, hml⟩ := I
  have hown : s.vm.findClass RX8 = some m.cls := hown
  have hl : lv_has ls 2 [(0, .ref (α 0 0 0)), (1, .int p0)] := hl
  obtain ⟨hI1, hI2, hI3, hI4, hI5, hI6, hI7, hI8, hI9, hI10⟩ := id hI
  refine lv_aload_n hx hb dX8_claim_0 rfl (lv_at hl 0 rfl) ?_
  refine lv_aload_n hx hb dX8_claim_1 rfl (lv_at hl 0 rfl) ?_
  refine lv_iload_n hx hb dX8_claim_2 rfl (lv_at hl 1 rfl) ?_
  refine fw_tVq hx hb hml hown hts hE hw htab hlocks [.int p0] [.ref (α 0 0 0)] (c_X8_workerOf l D A y sa f hfl α κ nw no nt wk p0 (by omega) hR) (cwV 1 hts gX8_claim_X8_workerOf rfl rfl rfl (by decide +kernel) ⟨Nat.le_of_ble_eq_true rfl, Nat.le_of_ble_eq_true rfl⟩) (ci := 8) rfl rfl hR.x rfl hl.1 rfl (Nat.le_of_ble_eq_true rfl) dX8_claim_3 ⟨Nat.le_of_ble_eq_true rfl, Nat.le_of_ble_eq_true rfl⟩ (fun E h => h) (Nat.le_of_ble_eq_true rfl) (Nat.le_of_ble_eq_true rfl) (fun r1 f2 H locs hp3 hw => ?_)
  obtain ⟨w, hwn, rfl, hp3a, hp3b⟩ := hp3
  rw [hp3b] at hw
  rw [hp3a]
  refine fw_callVi hx hb hml hown hts hE hw [.ref (α 3 w 0)] [] (c_X8_claimOf l D A y sa f α κ nw no nt wk w hwn hI hR) (cwV 1 hts gX8_claim_X8_claimOf rfl rfl rfl (by decide +kernel) ⟨Nat.le_of_ble_eq_true rfl, Nat.le_of_ble_eq_true rfl⟩) (ci := 8) rfl rfl hR.x rfl hl.1 rfl (Nat.le_of_ble_eq_true rfl) dX8_claim_6 ⟨Nat.le_of_ble_eq_true rfl, Nat.le_of_ble_eq_true rfl⟩ (fun r4 f5 H locs hp6 hw => ?_)
  obtain ⟨hp6a, hp6b⟩ := hp6
  rw [hp6b] at hw
  rw [hp6a]
  exact vx_ret (fw_iret hx hb hr hlocks hw (Nat.le_of_ble_eq_true rfl) (Nat.le_of_ble_eq_true rfl) dX8_claim_9 (⟨w, hwn, rfl, rfl, rfl⟩))

set_option maxHeartbeats 4000000 in
set_option maxRecDepth 100000 in
/-- due -/
theorem c_X8_due (l : Launch) (D : va_G) (A : Nat → Prop) (y : Nat → ClassId) (sa : Nat → Nat) (f : fw_F) (hfl : l.stackTraces = false) (α : Nat → Nat → Nat → Nat) (κ : cS) (nw no nt wk : Nat) (p0 p1 : Int32) (hI : Ic nw no nt wk κ) (hR : Rc y nw no nt wk κ α f) : vx_Met l yX8_due wsX8_due ({ frames := 8, cells := 2, slots := 12, locals := 130 } : Room) (cPc D A y sa f [.ref (α 0 0 0), .int p0, .int p1]) (cQi D A (fun r f1 => ∃ w, w < nw ∧ p0 = nI w ∧ inr p1 0 30 ∧ r = duC κ w p1 p1 ∧ f1 = f)) (cX D A f (fun E => (E = nIOB ∧ ¬ inr p0 0 (nI nw - 1)) ∨ (E = nIAE ∧ inr p0 0 (nI nw - 1) ∧ ¬ inr p1 0 30))) 2 12 A := by
  refine fw_xmet (by decide) rfl [.ref (α 0 0 0), .int p0, .int p1] (Nat.le_of_ble_eq_true rfl) ?_
  intro p e s m args below meth c ls I htab hE hw hl
  obtain ⟨hx, hb, hr, hts, hown, hlocks, hml⟩ := I
  have hown : s.vm.findClass RX8 = some m.cls := hown
  have hl : lv_has ls 4 [(0, .ref (α 0 0 0)), (1, .int p0), (2, .int p1)] := hl
  obtain ⟨hI1, hI2, hI3, hI4, hI5, hI6, hI7, hI8, hI9, hI10⟩ := id hI
  refine lv_aload_n hx hb dX8_due_0 rfl (lv_at hl 0 rfl) ?_
  refine lv_iload_n hx hb dX8_due_1 rfl (lv_at hl 1 rfl) ?_
  refine fw_tVq hx hb hml hown hts hE hw htab hlocks [.int p0] [] (c_X8_workerOf l D A y sa f hfl α κ nw no nt wk p0 (by omega) hR) (cwV 1 hts gX8_due_X8_workerOf rfl rfl rfl (by decide +kernel) ⟨Nat.le_of_ble_eq_true rfl, Nat.le_of_ble_eq_true rfl⟩) (ci := 8) rfl rfl hR.x rfl hl.1 rfl (Nat.le_of_ble_eq_true rfl) dX8_due_2 ⟨Nat.le_of_ble_eq_true rfl, Nat.le_of_ble_eq_true rfl⟩ (fun E h => Or.inl h) (Nat.le_of_ble_eq_true rfl) (Nat.le_of_ble_eq_true rfl) (fun r1 f2 H locs hp3 hw => ?_)
  obtain ⟨w, hwn, rfl, hp3a, hp3b⟩ := hp3
  rw [hp3b] at hw
  rw [hp3a]
  refine lv_astore_n (lv' := [(3, .ref (α 3 w 0)), (0, .ref (α 0 0 0)), (1, .int (nI w)), (2, .int p1)]) hx hb dX8_due_5 rfl hl (by decide) rfl (fun ls hl => ?_)
  refine lv_iload_n hx hb dX8_due_6 rfl (lv_at hl 3 rfl) ?_
  refine fw_tSv hx hb hml hown hts hE hw htab hlocks [.int p1] [] (c_X8_checkWeek l D A y sa f hfl p1) (va_cwS 1 hts gX8_due_X8_checkWeek rfl rfl rfl (by decide +kernel) ⟨Nat.le_of_ble_eq_true rfl, Nat.le_of_ble_eq_true rfl⟩) rfl hl.1 rfl (Nat.le_of_ble_eq_true rfl) dX8_due_7 ⟨Nat.le_of_ble_eq_true rfl, Nat.le_of_ble_eq_true rfl⟩ (fun E h => Or.inr ⟨h.1, inr_wI hwn (by omega), h.2⟩) (Nat.le_of_ble_eq_true rfl) (Nat.le_of_ble_eq_true rfl) (fun f5 H locs hp6 hw => ?_)
  obtain ⟨hin1, hp6b⟩ := hp6
  rw [hp6b] at hw
  refine lv_aload_n hx hb dX8_due_10 rfl (lv_at hl 1 rfl) ?_
  refine lv_aload_n hx hb dX8_due_11 rfl (lv_at hl 0 rfl) ?_
  refine lv_iload_n hx hb dX8_due_12 rfl (lv_at hl 3 rfl) ?_
  refine lv_iload_n hx hb dX8_due_13 rfl (lv_at hl 3 rfl) ?_
  refine fw_callVi hx hb hml hown hts hE hw [.ref (α 3 w 0), .int p1, .int p1] [] (c_X8_dueBetween l D A y sa f α κ nw no nt wk w p1 p1 hwn hI hR) (cwV 3 hts gX8_due_X8_dueBetween rfl rfl rfl (by decide +kernel) ⟨Nat.le_of_ble_eq_true rfl, Nat.le_of_ble_eq_true rfl⟩) (ci := 8) rfl rfl hR.x rfl hl.1 rfl (Nat.le_of_ble_eq_true rfl) dX8_due_14 ⟨Nat.le_of_ble_eq_true rfl, Nat.le_of_ble_eq_true rfl⟩ (fun r7 f8 H locs hp9 hw => ?_)
  obtain ⟨hp9a, hp9b⟩ := hp9
  rw [hp9b] at hw
  rw [hp9a]
  exact vx_ret (fw_iret hx hb hr hlocks hw (Nat.le_of_ble_eq_true rfl) (Nat.le_of_ble_eq_true rfl) dX8_due_17 (⟨w, hwn, rfl, hin1, rfl, rfl⟩))

theorem iX8_pot_1 : ∀ w ∈ wsX10, w ∈ wsX8_pot := by decide +kernel
set_option maxHeartbeats 4000000 in
set_option maxRecDepth 100000 in
/-- pot -/
theorem c_X8_pot (l : Launch) (D : va_G) (A : Nat → Prop) (y : Nat → ClassId) (sa : Nat → Nat) (f : fw_F) (hfl : l.stackTraces = false) (α : Nat → Nat → Nat → Nat) (κ : cS) (nw no nt wk : Nat) (p0 : Int32) (hI : Ic nw no nt wk κ) (hR : Rc y nw no nt wk κ α f) : vx_Met l yX8_pot wsX8_pot ({ frames := 7, cells := 1, slots := 6, locals := 110 } : Room) (cPc D A y sa f [.ref (α 0 0 0), .int p0]) (cQi D A (fun r f1 => ∃ e, e < 3 ∧ p0 = nI e ∧ r = κ 1 e 0 ∧ f1 = f)) (cX D A f (fun E => E = nIOB ∧ ¬ inr p0 0 2)) 1 6 A := by
  refine fw_xmet (by decide) rfl [.ref (α 0 0 0), .int p0] (Nat.le_of_ble_eq_true rfl) ?_
  intro p e s m args below meth c ls I htab hE hw hl
  obtain ⟨hx, hb, hr, hts, hown, hlocks, hml⟩ := I
  have hown : s.vm.findClass RX8 = some m.cls := hown
  have hl : lv_has ls 2 [(0, .ref (α 0 0 0)), (1, .int p0)] := hl
  obtain ⟨hI1, hI2, hI3, hI4, hI5, hI6, hI7, hI8, hI9, hI10⟩ := id hI
  refine lv_aload_n hx hb dX8_pot_0 rfl (lv_at hl 0 rfl) ?_
  refine lv_iload_n hx hb dX8_pot_1 rfl (lv_at hl 1 rfl) ?_
  refine fw_tVq hx hb hml hown hts hE hw htab hlocks [.int p0] [] (c_X8_potOf l D A y sa f hfl α κ nw no nt wk p0 hR) (cwV 1 hts gX8_pot_X8_potOf rfl rfl rfl (by decide +kernel) ⟨Nat.le_of_ble_eq_true rfl, Nat.le_of_ble_eq_true rfl⟩) (ci := 8) rfl rfl hR.x rfl hl.1 rfl (Nat.le_of_ble_eq_true rfl) dX8_pot_2 ⟨Nat.le_of_ble_eq_true rfl, Nat.le_of_ble_eq_true rfl⟩ (fun E h => h) (Nat.le_of_ble_eq_true rfl) (Nat.le_of_ble_eq_true rfl) (fun r1 f2 H locs hp3 hw => ?_)
  obtain ⟨ev, hev, rfl, hp3a, hp3b⟩ := hp3
  rw [hp3b] at hw
  rw [hp3a]
  refine fw_get hx hb hts hown hE.1.1 hw (ci := 1) (fs := [.int (κ 1 ev 0), .int (κ 1 ev 1)]) (v := .int (κ 1 ev 0)) (hR.p hev) iX8_pot_1 rfl 0 (by decide) rfl (by decide +kernel) dX8_pot_5 ?_
  exact vx_ret (fw_iret hx hb hr hlocks hw (Nat.le_of_ble_eq_true rfl) (Nat.le_of_ble_eq_true rfl) dX8_pot_8 (⟨ev, hev, rfl, rfl, rfl⟩))

theorem iX8_shortage_1 : ∀ w ∈ wsX10, w ∈ wsX8_shortage := by decide +kernel
set_option maxHeartbeats 4000000 in
set_option maxRecDepth 100000 in
/-- shortage -/
theorem c_X8_shortage (l : Launch) (D : va_G) (A : Nat → Prop) (y : Nat → ClassId) (sa : Nat → Nat) (f : fw_F) (hfl : l.stackTraces = false) (α : Nat → Nat → Nat → Nat) (κ : cS) (nw no nt wk : Nat) (p0 : Int32) (hI : Ic nw no nt wk κ) (hR : Rc y nw no nt wk κ α f) : vx_Met l yX8_shortage wsX8_shortage ({ frames := 7, cells := 1, slots := 6, locals := 110 } : Room) (cPc D A y sa f [.ref (α 0 0 0), .int p0]) (cQi D A (fun r f1 => ∃ e, e < 3 ∧ p0 = nI e ∧ r = κ 1 e 1 ∧ f1 = f)) (cX D A f (fun E => E = nIOB ∧ ¬ inr p0 0 2)) 1 6 A := by
  refine fw_xmet (by decide) rfl [.ref (α 0 0 0), .int p0] (Nat.le_of_ble_eq_true rfl) ?_
  intro p e s m args below meth c ls I htab hE hw hl
  obtain ⟨hx, hb, hr, hts, hown, hlocks, hml⟩ := I
  have hown : s.vm.findClass RX8 = some m.cls := hown
  have hl : lv_has ls 2 [(0, .ref (α 0 0 0)), (1, .int p0)] := hl
  obtain ⟨hI1, hI2, hI3, hI4, hI5, hI6, hI7, hI8, hI9, hI10⟩ := id hI
  refine lv_aload_n hx hb dX8_shortage_0 rfl (lv_at hl 0 rfl) ?_
  refine lv_iload_n hx hb dX8_shortage_1 rfl (lv_at hl 1 rfl) ?_
  refine fw_tVq hx hb hml hown hts hE hw htab hlocks [.int p0] [] (c_X8_potOf l D A y sa f hfl α κ nw no nt wk p0 hR) (cwV 1 hts gX8_shortage_X8_potOf rfl rfl rfl (by decide +kernel) ⟨Nat.le_of_ble_eq_true rfl, Nat.le_of_ble_eq_true rfl⟩) (ci := 8) rfl rfl hR.x rfl hl.1 rfl (Nat.le_of_ble_eq_true rfl) dX8_shortage_2 ⟨Nat.le_of_ble_eq_true rfl, Nat.le_of_ble_eq_true rfl⟩ (fun E h => h) (Nat.le_of_ble_eq_true rfl) (Nat.le_of_ble_eq_true rfl) (fun r1 f2 H locs hp3 hw => ?_)
  obtain ⟨ev, hev, rfl, hp3a, hp3b⟩ := hp3
  rw [hp3b] at hw
  rw [hp3a]
  refine fw_get hx hb hts hown hE.1.1 hw (ci := 1) (fs := [.int (κ 1 ev 0), .int (κ 1 ev 1)]) (v := .int (κ 1 ev 1)) (hR.p hev) iX8_shortage_1 rfl 1 (by decide) rfl (by decide +kernel) dX8_shortage_5 ?_
  exact vx_ret (fw_iret hx hb hr hlocks hw (Nat.le_of_ble_eq_true rfl) (Nat.le_of_ble_eq_true rfl) dX8_shortage_8 (⟨ev, hev, rfl, rfl, rfl⟩))

set_option maxHeartbeats 4000000 in
set_option maxRecDepth 100000 in
/-- slip -/
theorem c_X8_slip (l : Launch) (D : va_G) (A : Nat → Prop) (y : Nat → ClassId) (sa : Nat → Nat) (f : fw_F) (hfl : l.stackTraces = false) (α : Nat → Nat → Nat → Nat) (κ : cS) (nw no nt wk : Nat) (p0 p1 p2 : Int32) (hI : Ic nw no nt wk κ) (hR : Rc y nw no nt wk κ α f) : vx_Met l yX8_slip wsX8_slip ({ frames := 8, cells := 3, slots := 18, locals := 130 } : Room) (cPc D A y sa f [.ref (α 0 0 0), .int p0, .int p1, .int p2]) (cQi D A (fun r f1 => ∃ w kv pv, w < nw ∧ kv ≤ 30 ∧ pv ≤ 3 ∧ p0 = nI w ∧ p1 = nI kv ∧ p2 = nI pv ∧ r = spC κ w kv pv ∧ f1 = f)) (cX D A f (fun E => (E = nIOB ∧ ¬ inr p0 0 (nI nw - 1)) ∨ (E = nIAE ∧ inr p0 0 (nI nw - 1) ∧ ¬ (inr p1 0 30 ∧ inr p2 0 3)))) 3 18 A := by
  refine fw_xmet (by decide) rfl [.ref (α 0 0 0), .int p0, .int p1, .int p2] (Nat.le_of_ble_eq_true rfl) ?_
  intro p e s m args below meth c ls I htab hE hw hl
  obtain ⟨hx, hb, hr, hts, hown, hlocks, hml⟩ := I
  have hown : s.vm.findClass RX8 = some m.cls := hown
  have hl : lv_has ls 5 [(0, .ref (α 0 0 0)), (1, .int p0), (2, .int p1), (3, .int p2)] := hl
  obtain ⟨hI1, hI2, hI3, hI4, hI5, hI6, hI7, hI8, hI9, hI10⟩ := id hI
  refine lv_aload_n hx hb dX8_slip_0 rfl (lv_at hl 0 rfl) ?_
  refine lv_iload_n hx hb dX8_slip_1 rfl (lv_at hl 1 rfl) ?_
  refine fw_tVq hx hb hml hown hts hE hw htab hlocks [.int p0] [] (c_X8_workerOf l D A y sa f hfl α κ nw no nt wk p0 (by omega) hR) (cwV 1 hts gX8_slip_X8_workerOf rfl rfl rfl (by decide +kernel) ⟨Nat.le_of_ble_eq_true rfl, Nat.le_of_ble_eq_true rfl⟩) (ci := 8) rfl rfl hR.x rfl hl.1 rfl (Nat.le_of_ble_eq_true rfl) dX8_slip_2 ⟨Nat.le_of_ble_eq_true rfl, Nat.le_of_ble_eq_true rfl⟩ (fun E h => Or.inl h) (Nat.le_of_ble_eq_true rfl) (Nat.le_of_ble_eq_true rfl) (fun r1 f2 H locs hp3 hw => ?_)
  obtain ⟨w, hwn, rfl, hp3a, hp3b⟩ := hp3
  rw [hp3b] at hw
  rw [hp3a]
  refine lv_astore (lv' := [(4, .ref (α 3 w 0)), (0, .ref (α 0 0 0)), (1, .int (nI w)), (2, .int p1), (3, .int p2)]) hx hb dX8_slip_5 hl (by decide) rfl (fun ls hl => ?_)
  refine lv_iload_n hx hb dX8_slip_7 rfl (lv_at hl 3 rfl) ?_
  refine fw_tSv hx hb hml hown hts hE hw htab hlocks [.int p1] [] (c_X8_checkWeek l D A y sa f hfl p1) (va_cwS 1 hts gX8_slip_X8_checkWeek rfl rfl rfl (by decide +kernel) ⟨Nat.le_of_ble_eq_true rfl, Nat.le_of_ble_eq_true rfl⟩) rfl hl.1 rfl (Nat.le_of_ble_eq_true rfl) dX8_slip_8 ⟨Nat.le_of_ble_eq_true rfl, Nat.le_of_ble_eq_true rfl⟩ (fun E h => Or.inr ⟨h.1, inr_wI hwn (by omega), fun z => h.2 z.1⟩) (Nat.le_of_ble_eq_true rfl) (Nat.le_of_ble_eq_true rfl) (fun f5 H locs hp6 hw => ?_)
  obtain ⟨hin1, hp6b⟩ := hp6
  rw [hp6b] at hw
  refine lv_iload_n hx hb dX8_slip_11 rfl (lv_at hl 4 rfl) ?_
  refine lv_iconst (v := 0) hx hb dX8_slip_12 (by decide) ?_
  refine lv_iconst (v := 3) hx hb dX8_slip_13 (by decide) ?_
  refine fw_tSv hx hb hml hown hts hE hw htab hlocks [.int p2, .int 0, .int 3] [] (c_X8_checkRange l D A y sa f hfl p2 0 3) (va_cwS 3 hts gX8_slip_X8_checkRange rfl rfl rfl (by decide +kernel) ⟨Nat.le_of_ble_eq_true rfl, Nat.le_of_ble_eq_true rfl⟩) rfl hl.1 rfl (Nat.le_of_ble_eq_true rfl) dX8_slip_14 ⟨Nat.le_of_ble_eq_true rfl, Nat.le_of_ble_eq_true rfl⟩ (fun E h => Or.inr ⟨h.1, inr_wI hwn (by omega), fun z => h.2 z.2⟩) (Nat.le_of_ble_eq_true rfl) (Nat.le_of_ble_eq_true rfl) (fun f8 H locs hp9 hw => ?_)
  obtain ⟨hin2, hp9b⟩ := hp9
  rw [hp9b] at hw
  obtain ⟨kv, hkv, rfl⟩ := inr_of (n := 30) (by decide) hin1
  obtain ⟨pv, hpv, rfl⟩ := inr_of (n := 3) (by decide) hin2
  refine lv_aload hx hb dX8_slip_17 (lv_at hl 0 rfl) ?_
  refine lv_iload_n hx hb dX8_slip_19 rfl (lv_at hl 3 rfl) ?_
  refine lv_iload_n hx hb dX8_slip_20 rfl (lv_at hl 4 rfl) ?_
  refine fw_callVi hx hb hml hown hts hE hw [.int (nI kv), .int (nI pv)] [] (c_X7_slipPart l D A y sa f (α 3 w 0) (α 1 (κ 4 w 0).toNatClampNeg 0) (α 3 w 1) (α 3 w 4) (α 3 w 5) (κ 4 w 1) (κ 4 w 2) (κ 4 w 3) (κ 4 w 4) kv pv (slRow κ α w) (fun q => κ (11 + q) w kv) (by omega) (by omega) (hR.w0 hwn) (hR.w5 hwn) (fun q hq => by obtain ⟨z1, z2, rfl⟩ := slRow_some hq; exact hR.sl hwn z1 z2)) (cwV 2 hts gX8_slip_X7_slipPart rfl rfl rfl (by decide +kernel) ⟨Nat.le_of_ble_eq_true rfl, Nat.le_of_ble_eq_true rfl⟩) (ci := 7) rfl rfl (hR.w0 hwn) rfl hl.1 rfl (Nat.le_of_ble_eq_true rfl) dX8_slip_21 ⟨Nat.le_of_ble_eq_true rfl, Nat.le_of_ble_eq_true rfl⟩ (fun r10 f11 H locs hp12 hw => ?_)
  obtain ⟨hp12a, hp12b⟩ := hp12
  rw [hp12b] at hw
  rw [slRow_is (by omega)] at hp12a
  have hp12c : r10 = spC κ w kv pv := hp12a
  rw [hp12c]
  exact vx_ret (fw_iret hx hb hr hlocks hw (Nat.le_of_ble_eq_true rfl) (Nat.le_of_ble_eq_true rfl) dX8_slip_24 (⟨w, kv, pv, hwn, hkv, hpv, rfl, rfl, rfl, rfl, rfl⟩))

theorem iX8_claimBySlips_7 : ∀ w ∈ wsX70, w ∈ wsX8_claimBySlips := by decide +kernel
theorem iX8_claimBySlips_8 : ∀ w ∈ wsX80, w ∈ wsX8_claimBySlips := by decide +kernel
set_option maxHeartbeats 4000000 in
set_option maxRecDepth 100000 in
/-- claimBySlips -/
theorem c_X8_claimBySlips (l : Launch) (D : va_G) (A : Nat → Prop) (y : Nat → ClassId) (sa : Nat → Nat) (f : fw_F) (hfl : l.stackTraces = false) (α : Nat → Nat → Nat → Nat) (κ : cS) (nw no nt wk : Nat) (p0 : Int32) (hI : Ic nw no nt wk κ) (hR : Rc y nw no nt wk κ α f) : vx_Met l yX8_claimBySlips wsX8_claimBySlips ({ frames := 7, cells := 1, slots := 6, locals := 110 } : Room) (cPc D A y sa f [.ref (α 0 0 0), .int p0]) (cQi D A (fun r f1 => ∃ w, w < nw ∧ p0 = nI w ∧ r = ssC κ w (duC κ w 0 (nI wk) + κ 4 w 4) 31 ∧ f1 = f)) (cX D A f (fun E => E = nIOB ∧ ¬ inr p0 0 (nI nw - 1))) 1 6 A := by
  refine fw_xmet (by decide) rfl [.ref (α 0 0 0), .int p0] (Nat.le_of_ble_eq_true rfl) ?_
  intro p e s m args below meth c ls I htab hE hw hl
  obtain ⟨hx, hb, hr, hts, hown, hlocks, hml⟩ := I
  have hown : s.vm.findClass RX8 = some m.cls := hown
  have hl : lv_has ls 5 [(0, .ref (α 0 0 0)), (1, .int p0)] := hl
  obtain ⟨hI1, hI2, hI3, hI4, hI5, hI6, hI7, hI8, hI9, hI10⟩ := id hI
  refine lv_aload_n hx hb dX8_claimBySlips_0 rfl (lv_at hl 0 rfl) ?_
  refine lv_iload_n hx hb dX8_claimBySlips_1 rfl (lv_at hl 1 rfl) ?_
  refine fw_tVq hx hb hml hown hts hE hw htab hlocks [.int p0] [] (c_X8_workerOf l D A y sa f hfl α κ nw no nt wk p0 (by omega) hR) (cwV 1 hts gX8_claimBySlips_X8_workerOf rfl rfl rfl (by decide +kernel) ⟨Nat.le_of_ble_eq_true rfl, Nat.le_of_ble_eq_true rfl⟩) (ci := 8) rfl rfl hR.x rfl hl.1 rfl (Nat.le_of_ble_eq_true rfl) dX8_claimBySlips_2 ⟨Nat.le_of_ble_eq_true rfl, Nat.le_of_ble_eq_true rfl⟩ (fun E h => h) (Nat.le_of_ble_eq_true rfl) (Nat.le_of_ble_eq_true rfl) (fun r1 f2 H locs hp3 hw => ?_)
  obtain ⟨w, hwn, rfl, hp3a, hp3b⟩ := hp3
  rw [hp3b] at hw
  rw [hp3a]
  refine lv_astore_n (lv' := [(2, .ref (α 3 w 0)), (0, .ref (α 0 0 0)), (1, .int (nI w))]) hx hb dX8_claimBySlips_5 rfl hl (by decide) rfl (fun ls hl => ?_)
  refine lv_aload_n hx hb dX8_claimBySlips_6 rfl (lv_at hl 1 rfl) ?_
  refine lv_aload_n hx hb dX8_claimBySlips_7 rfl (lv_at hl 0 rfl) ?_
  refine lv_iconst (v := 0) hx hb dX8_claimBySlips_8 (by decide) ?_
  refine lv_aload_n hx hb dX8_claimBySlips_9 rfl (lv_at hl 1 rfl) ?_
  refine fw_get hx hb hts hown hE.1.1 hw (ci := 8) (fs := [.ref (α 0 0 1), .ref (α 0 0 2), .ref (α 0 0 3), .ref (α 0 0 4), .ref (α 0 0 5), .int (nI nw), .int (nI no), .int (nI nt), .int (κ 0 0 0), .int (nI wk)]) (v := .int (nI wk)) hR.x iX8_claimBySlips_8 rfl 9 (by decide) rfl (by decide +kernel) dX8_claimBySlips_10 ?_
  refine fw_callVi hx hb hml hown hts hE hw [.ref (α 3 w 0), .int 0, .int (nI wk)] [] (c_X8_dueBetween l D A y sa f α κ nw no nt wk w 0 (nI wk) hwn hI hR) (cwV 3 hts gX8_claimBySlips_X8_dueBetween rfl rfl rfl (by decide +kernel) ⟨Nat.le_of_ble_eq_true rfl, Nat.le_of_ble_eq_true rfl⟩) (ci := 8) rfl rfl hR.x rfl hl.1 rfl (Nat.le_of_ble_eq_true rfl) dX8_claimBySlips_13 ⟨Nat.le_of_ble_eq_true rfl, Nat.le_of_ble_eq_true rfl⟩ (fun r4 f5 H locs hp6 hw => ?_)
  obtain ⟨hp6a, hp6b⟩ := hp6
  rw [hp6b] at hw
  rw [hp6a]
  refine lv_aload_n hx hb dX8_claimBySlips_16 rfl (lv_at hl 0 rfl) ?_
  refine fw_get hx hb hts hown hE.1.1 hw (ci := 7) (fs := [.ref (α 1 (κ 4 w 0).toNatClampNeg 0), .ref (α 3 w 1), .int (κ 4 w 1), .int (κ 4 w 2), .int (κ 4 w 3), .int (κ 4 w 4), .ref (α 3 w 4), .ref (α 3 w 5)]) (v := .int (κ 4 w 4)) (hR.w0 hwn) iX8_claimBySlips_7 rfl 5 (by decide) rfl (by decide +kernel) dX8_claimBySlips_17 ?_
  refine lv_iadd hx hb dX8_claimBySlips_20 ?_
  refine lv_istore_n (lv' := [(3, .int ((duC κ w 0 (nI wk)) + (κ 4 w 4))), (2, .ref (α 3 w 0)), (0, .ref (α 0 0 0)), (1, .int (nI w))]) hx hb dX8_claimBySlips_21 rfl hl (by decide) rfl (fun ls hl => ?_)
  refine lv_iconst (v := 0) hx hb dX8_claimBySlips_22 (by decide) ?_
  refine lv_istore (lv' := [(4, .int 0), (3, .int ((duC κ w 0 (nI wk)) + (κ 4 w 4))), (2, .ref (α 3 w 0)), (0, .ref (α 0 0 0)), (1, .int (nI w))]) hx hb dX8_claimBySlips_23 hl (by decide) rfl (fun ls hl => ?_)
  refine fw_loop 25 5 (fun r : Nat => 31 - r) (fun r => r ≤ 31) (fun r => f) (fun r => [(4, .int (nI r)), (3, .int (ssC κ w (duC κ w 0 (nI wk) + κ 4 w 4) r)), (0, .ref (α 0 0 0)), (2, .ref (α 3 w 0))]) (fun r => []) (fun r => 0 + 1) (fun r => 0 + 6) (fun i H locs ls hP hw hl IH => ?_) 0 H locs ls (Nat.zero_le _) hw (lv_sub hl [0, 1, 3, 2] rfl)
  try dsimp only at hP
  try dsimp only at hw
  try dsimp only at hl
  try dsimp only at IH
  try dsimp only at ⊢
  refine lv_iload hx hb dX8_claimBySlips_25 (lv_at hl 0 rfl) ?_
  refine lv_bipush (v := 31) hx hb dX8_claimBySlips_27 (by decide) ?_
  refine lv_icmp_ge (tgt := 48) hx hb dX8_claimBySlips_29 (by decide) (fun c_7 => ?_) (fun c_7 => ?_)
  · have hi31 : i = 31 := nI_eqn (n := 31) c_7 hP (by decide)
    refine lv_iload_n hx hb dX8_claimBySlips_48 rfl (lv_at hl 1 rfl) ?_
    exact vx_ret (fw_iret hx hb hr hlocks hw (Nat.le_of_ble_eq_true rfl) (Nat.le_of_ble_eq_true rfl) dX8_claimBySlips_49 (⟨w, hwn, rfl, by rw [hi31], rfl⟩))
  · have hi31 : i < 31 := nI_hi (n := 31) c_7 (by omega)
    refine lv_iload_n hx hb dX8_claimBySlips_32 rfl (lv_at hl 1 rfl) ?_
    refine lv_aload_n hx hb dX8_claimBySlips_33 rfl (lv_at hl 3 rfl) ?_
    refine lv_iload hx hb dX8_claimBySlips_34 (lv_at hl 0 rfl) ?_
    refine lv_iconst (v := 0) hx hb dX8_claimBySlips_36 (by decide) ?_
    refine fw_callVi hx hb hml hown hts hE hw [.int (nI i), .int 0] [.int (ssC κ w (duC κ w 0 (nI wk) + κ 4 w 4) i)] (c_X7_slipPart l D A y sa f (α 3 w 0) (α 1 (κ 4 w 0).toNatClampNeg 0) (α 3 w 1) (α 3 w 4) (α 3 w 5) (κ 4 w 1) (κ 4 w 2) (κ 4 w 3) (κ 4 w 4) i 0 (slRow κ α w) (fun q => κ (11 + q) w i) hi31 (by decide) (hR.w0 hwn) (hR.w5 hwn) (fun q hq => by obtain ⟨z1, z2, rfl⟩ := slRow_some hq; exact hR.sl hwn z1 z2)) (cwV 2 hts gX8_claimBySlips_X7_slipPart rfl rfl rfl (by decide +kernel) ⟨Nat.le_of_ble_eq_true rfl, Nat.le_of_ble_eq_true rfl⟩) (ci := 7) rfl rfl (hR.w0 hwn) rfl hl.1 rfl (Nat.le_of_ble_eq_true rfl) dX8_claimBySlips_37 ⟨Nat.le_of_ble_eq_true rfl, Nat.le_of_ble_eq_true rfl⟩ (fun r8 f9 H locs hp10 hw => ?_)
    obtain ⟨hp10a, hp10b⟩ := hp10
    rw [hp10b] at hw
    rw [slRow_is hi31] at hp10a
    have hp10c : r8 = spC κ w i 0 := hp10a
    rw [hp10c]
    refine lv_isub hx hb dX8_claimBySlips_40 ?_
    refine lv_istore_n (lv' := [(3, .int ((ssC κ w (duC κ w 0 (nI wk) + κ 4 w 4) i) - (spC κ w i 0))), (4, .int (nI i)), (0, .ref (α 0 0 0)), (2, .ref (α 3 w 0))]) hx hb dX8_claimBySlips_41 rfl hl (by decide) rfl (fun ls hl => ?_)
    refine lv_iinc (v := (nI (i + 1))) (lv' := [(4, .int (nI (i + 1))), (3, .int ((ssC κ w (duC κ w 0 (nI wk) + κ 4 w 4) i) - (spC κ w i 0))), (0, .ref (α 0 0 0)), (2, .ref (α 3 w 0))]) hx hb dX8_claimBySlips_42 hl (k := 1) rfl (nI_1 (i)) (by decide) rfl (fun ls hl => ?_)
    refine lv_goto (tgt := 25) hx hb dX8_claimBySlips_45 (by decide) ?_
    exact IH (i + 1) _ _ _ (by omega) (by omega) hw (lv_sub hl [0, 1, 2, 3] rfl)

theorem iX8_left_0 : ∀ w ∈ wsX00, w ∈ wsX8_left := by decide +kernel
theorem iX8_left_8 : ∀ w ∈ wsX80, w ∈ wsX8_left := by decide +kernel
set_option maxHeartbeats 4000000 in
set_option maxRecDepth 100000 in
/-- left -/
theorem c_X8_left (l : Launch) (D : va_G) (A : Nat → Prop) (y : Nat → ClassId) (sa : Nat → Nat) (f : fw_F) (hfl : l.stackTraces = false) (α : Nat → Nat → Nat → Nat) (κ : cS) (nw no nt wk : Nat) (p0 : Int32) (hI : Ic nw no nt wk κ) (hR : Rc y nw no nt wk κ α f) : vx_Met l yX8_left wsX8_left ({ frames := 6, cells := 1, slots := 6, locals := 88 } : Room) (cPc D A y sa f [.ref (α 0 0 0), .int p0]) (cQi D A (fun r f1 => ∃ o, o < no ∧ p0 = nI o ∧ r = κ 15 o 2 ∧ f1 = f)) (cX D A f (fun E => E = nIOB ∧ ¬ inr p0 0 (nI no - 1))) 1 6 A := by
  refine fw_xmet (by decide) rfl [.ref (α 0 0 0), .int p0] (Nat.le_of_ble_eq_true rfl) ?_
  intro p e s m args below meth c ls I htab hE hw hl
  obtain ⟨hx, hb, hr, hts, hown, hlocks, hml⟩ := I
  have hown : s.vm.findClass RX8 = some m.cls := hown
  have hl : lv_has ls 3 [(0, .ref (α 0 0 0)), (1, .int p0)] := hl
  obtain ⟨hI1, hI2, hI3, hI4, hI5, hI6, hI7, hI8, hI9, hI10⟩ := id hI
  refine lv_iload_n hx hb dX8_left_0 rfl (lv_at hl 1 rfl) ?_
  refine lv_if_lt (tgt := 22) hx hb dX8_left_1 (by decide) (fun c_1 => ?_) (fun c_1 => ?_)
  · refine lv_null hx hb dX8_left_22 ?_
    refine lv_astore_nN (lv' := [(2, .null), (0, .ref (α 0 0 0)), (1, .int p0)]) hx hb dX8_left_23 rfl hl (by decide) rfl (fun ls hl => ?_)
    refine lv_aload_nN hx hb dX8_left_24 rfl (lv_at hl 0 rfl) ?_
    refine lv_ifnonnullN hx hb dX8_left_25 ?_
    exact fw_throw (ic := 129) (ik := 125) (is := 145) (cls := nIOB) (text := "no such order") hx hb hfl hts hown hE hw htab hlocks thIOB (fun w h => List.mem_cons_of_mem _ (List.mem_append_right _ h)) (by decide +kernel) (by decide +kernel) (by decide +kernel) (hl.1.trans hml.symm) dX8_left_28 dX8_left_31 dX8_left_32 dX8_left_34 dX8_left_37 (Nat.le_of_ble_eq_true rfl) (Nat.le_of_ble_eq_true rfl) (Nat.le_of_ble_eq_true rfl) (Nat.le_of_ble_eq_true rfl) (⟨rfl, fun z => absurd c_1 (Int32.not_lt.mpr z.1)⟩) (Nat.le_of_ble_eq_true rfl) (Nat.le_of_ble_eq_true rfl)
  · refine lv_iload_n hx hb dX8_left_4 rfl (lv_at hl 1 rfl) ?_
    refine lv_aload_n hx hb dX8_left_5 rfl (lv_at hl 0 rfl) ?_
    refine fw_get hx hb hts hown hE.1.1 hw (ci := 8) (fs := [.ref (α 0 0 1), .ref (α 0 0 2), .ref (α 0 0 3), .ref (α 0 0 4), .ref (α 0 0 5), .int (nI nw), .int (nI no), .int (nI nt), .int (κ 0 0 0), .int (nI wk)]) (v := .ref (α 0 0 4)) hR.x iX8_left_8 rfl 3 (by decide) rfl (by decide +kernel) dX8_left_6 ?_
    refine fw_alen hx hb hE.1.1 hw hR.x4 2 rfl (v := 20) rfl dX8_left_9 ?_
    refine lv_icmp_ge (tgt := 22) hx hb dX8_left_10 (by decide) (fun c_2 => ?_) (fun c_2 => ?_)
    · refine lv_null hx hb dX8_left_22 ?_
      refine lv_astore_nN (lv' := [(2, .null), (0, .ref (α 0 0 0)), (1, .int p0)]) hx hb dX8_left_23 rfl hl (by decide) rfl (fun ls hl => ?_)
      refine lv_aload_nN hx hb dX8_left_24 rfl (lv_at hl 0 rfl) ?_
      refine lv_ifnonnullN hx hb dX8_left_25 ?_
      exact fw_throw (ic := 129) (ik := 125) (is := 145) (cls := nIOB) (text := "no such order") hx hb hfl hts hown hE hw htab hlocks thIOB (fun w h => List.mem_cons_of_mem _ (List.mem_append_right _ h)) (by decide +kernel) (by decide +kernel) (by decide +kernel) (hl.1.trans hml.symm) dX8_left_28 dX8_left_31 dX8_left_32 dX8_left_34 dX8_left_37 (Nat.le_of_ble_eq_true rfl) (Nat.le_of_ble_eq_true rfl) (Nat.le_of_ble_eq_true rfl) (Nat.le_of_ble_eq_true rfl) (⟨rfl, fun z => by obtain ⟨j, h1, rfl⟩ := inr_w (by omega) z; exact absurd c_2 (nI_ge (b := 20) (by omega) (by decide))⟩) (Nat.le_of_ble_eq_true rfl) (Nat.le_of_ble_eq_true rfl)
    · refine lv_aload_n hx hb dX8_left_13 rfl (lv_at hl 0 rfl) ?_
      refine fw_get hx hb hts hown hE.1.1 hw (ci := 8) (fs := [.ref (α 0 0 1), .ref (α 0 0 2), .ref (α 0 0 3), .ref (α 0 0 4), .ref (α 0 0 5), .int (nI nw), .int (nI no), .int (nI nt), .int (κ 0 0 0), .int (nI wk)]) (v := .ref (α 0 0 4)) hR.x iX8_left_8 rfl 3 (by decide) rfl (by decide +kernel) dX8_left_14 ?_
      refine lv_iload_n hx hb dX8_left_17 rfl (lv_at hl 1 rfl) ?_
      obtain ⟨j, hj8, rfl⟩ := ix_of (n := 20) (by decide) c_1 c_2
      refine fw_aald hx hb hE.1.1 hw (g := (fun e => if e < no then some (α 6 e 0) else none)) hR.x4 2 rfl (vp_in_nI hj8 (by decide)) dX8_left_18 ?_
      rw [nI_clamp (n := j) (by omega)]
      rcases Nat.lt_or_ge j no with hj | hj
      · rw [if_pos hj]
        refine lv_goto (tgt := 23) hx hb dX8_left_19 (by decide) ?_
        refine lv_astore_n (lv' := [(2, .ref (α 6 j 0)), (0, .ref (α 0 0 0)), (1, .int (nI j))]) hx hb dX8_left_23 rfl hl (by decide) rfl (fun ls hl => ?_)
        refine lv_aload_n hx hb dX8_left_24 rfl (lv_at hl 0 rfl) ?_
        refine lv_ifnonnull (tgt := 38) hx hb dX8_left_25 (by decide) ?_
        refine lv_aload_n hx hb dX8_left_38 rfl (lv_at hl 0 rfl) ?_
        refine fw_get hx hb hts hown hE.1.1 hw (ci := 0) (fs := [.ref (α 3 (κ 15 j 0).toNatClampNeg 0), .int (κ 15 j 1), .int (κ 15 j 2), .int (κ 15 j 3)]) (v := .int (κ 15 j 2)) (hR.o hj) iX8_left_0 rfl 2 (by decide) rfl (by decide +kernel) dX8_left_39 ?_
        exact vx_ret (fw_iret hx hb hr hlocks hw (Nat.le_of_ble_eq_true rfl) (Nat.le_of_ble_eq_true rfl) dX8_left_42 (⟨j, hj, rfl, rfl, rfl⟩))
      · rw [if_neg (Nat.not_lt.mpr hj)]
        refine lv_goto (tgt := 23) hx hb dX8_left_19 (by decide) ?_
        refine lv_astore_nN (lv' := [(2, .null), (0, .ref (α 0 0 0)), (1, .int (nI j))]) hx hb dX8_left_23 rfl hl (by decide) rfl (fun ls hl => ?_)
        refine lv_aload_nN hx hb dX8_left_24 rfl (lv_at hl 0 rfl) ?_
        refine lv_ifnonnullN hx hb dX8_left_25 ?_
        exact fw_throw (ic := 129) (ik := 125) (is := 145) (cls := nIOB) (text := "no such order") hx hb hfl hts hown hE hw htab hlocks thIOB (fun w h => List.mem_cons_of_mem _ (List.mem_append_right _ h)) (by decide +kernel) (by decide +kernel) (by decide +kernel) (hl.1.trans hml.symm) dX8_left_28 dX8_left_31 dX8_left_32 dX8_left_34 dX8_left_37 (Nat.le_of_ble_eq_true rfl) (Nat.le_of_ble_eq_true rfl) (Nat.le_of_ble_eq_true rfl) (Nat.le_of_ble_eq_true rfl) (⟨rfl, fun z => by obtain ⟨j2, h1, h2⟩ := inr_w (by omega) z; have := nI_inj2 h2 (by omega) (by omega); omega⟩) (Nat.le_of_ble_eq_true rfl) (Nat.le_of_ble_eq_true rfl)

theorem iX8_week_8 : ∀ w ∈ wsX80, w ∈ wsX8_week := by decide +kernel
set_option maxHeartbeats 4000000 in
set_option maxRecDepth 100000 in
/-- week -/
theorem c_X8_week (l : Launch) (D : va_G) (A : Nat → Prop) (y : Nat → ClassId) (sa : Nat → Nat) (f : fw_F) (α : Nat → Nat → Nat → Nat) (κ : cS) (nw no nt wk : Nat) (hR : Rc y nw no nt wk κ α f) : Met l yX8_week wsX8_week ({ frames := 0, cells := 0, slots := 0, locals := 0 } : Room) (cPc D A y sa f [.ref (α 0 0 0)]) (cQi D A (fun r f1 => r = nI wk ∧ f1 = f)) 0 0 A := by
  refine fw_met (by decide) rfl [.ref (α 0 0 0)] (Nat.le_of_ble_eq_true rfl) ?_
  intro p e s m args below meth c ls I hin hE hw hl
  obtain ⟨hx, hb, hr, hts, hown, hlocks, hml⟩ := I
  have hown : s.vm.findClass RX8 = some m.cls := hown
  have hl : lv_has ls 1 [(0, .ref (α 0 0 0))] := hl
  refine lv_aload_n hx hb dX8_week_0 rfl (lv_at hl 0 rfl) ?_
  refine fw_get hx hb hts hown hE.1.1 hw (ci := 8) (fs := [.ref (α 0 0 1), .ref (α 0 0 2), .ref (α 0 0 3), .ref (α 0 0 4), .ref (α 0 0 5), .int (nI nw), .int (nI no), .int (nI nt), .int (κ 0 0 0), .int (nI wk)]) (v := .int (nI wk)) hR.x iX8_week_8 rfl 9 (by decide) rfl (by decide +kernel) dX8_week_1 ?_
  exact fw_iret hx hb hr hlocks hw (Nat.le_of_ble_eq_true rfl) (Nat.le_of_ble_eq_true rfl) dX8_week_4 (⟨rfl, rfl⟩)

theorem iX8_setFloor_8 : ∀ w ∈ wsX80, w ∈ wsX8_setFloor := by decide +kernel
set_option maxHeartbeats 4000000 in
set_option maxRecDepth 100000 in
/-- setFloor -/
theorem c_X8_setFloor (l : Launch) (D : va_G) (A : Nat → Prop) (y : Nat → ClassId) (sa : Nat → Nat) (f : fw_F) (hfl : l.stackTraces = false) (α : Nat → Nat → Nat → Nat) (κ : cS) (nw no nt wk : Nat) (p0 : Int32) (hI : Ic nw no nt wk κ) (hR : Rc y nw no nt wk κ α f) : vx_Met l yX8_setFloor wsX8_setFloor ({ frames := 7, cells := 1, slots := 6, locals := 110 } : Room) (cPc D A y sa f [.ref (α 0 0 0), .int p0]) (cQi D A (fun r f1 => inr p0 0 10000000 ∧ r = κ 0 0 0 ∧ Rc y nw no nt wk (upF κ 0 0 (va_up (κ 0 0) 0 p0)) α f1)) (cX D A f (fun E => E = nIAE ∧ ¬ inr p0 0 10000000)) 1 6 A := by
  refine fw_xmet (by decide) rfl [.ref (α 0 0 0), .int p0] (Nat.le_of_ble_eq_true rfl) ?_
  intro p e s m args below meth c ls I htab hE hw hl
  obtain ⟨hx, hb, hr, hts, hown, hlocks, hml⟩ := I
  have hown : s.vm.findClass RX8 = some m.cls := hown
  have hl : lv_has ls 3 [(0, .ref (α 0 0 0)), (1, .int p0)] := hl
  obtain ⟨hI1, hI2, hI3, hI4, hI5, hI6, hI7, hI8, hI9, hI10⟩ := id hI
  refine lv_iload_n hx hb dX8_setFloor_0 rfl (lv_at hl 1 rfl) ?_
  refine lv_iconst (v := 0) hx hb dX8_setFloor_1 (by decide) ?_
  refine lv_ldc (own := RX8) (v := 10000000) hx hb hown (hts (.constant RX8 138 (10000000)) (by decide +kernel)) dX8_setFloor_2 ?_
  refine fw_tSv hx hb hml hown hts hE hw htab hlocks [.int p0, .int 0, .int 10000000] [] (c_X8_checkRange l D A y sa f hfl p0 0 10000000) (va_cwS 3 hts gX8_setFloor_X8_checkRange rfl rfl rfl (by decide +kernel) ⟨Nat.le_of_ble_eq_true rfl, Nat.le_of_ble_eq_true rfl⟩) rfl hl.1 rfl (Nat.le_of_ble_eq_true rfl) dX8_setFloor_4 ⟨Nat.le_of_ble_eq_true rfl, Nat.le_of_ble_eq_true rfl⟩ (fun E h => h) (Nat.le_of_ble_eq_true rfl) (Nat.le_of_ble_eq_true rfl) (fun f2 H locs hp3 hw => ?_)
  obtain ⟨hin1, hp3b⟩ := hp3
  rw [hp3b] at hw
  refine lv_aload_n hx hb dX8_setFloor_7 rfl (lv_at hl 0 rfl) ?_
  refine fw_get hx hb hts hown hE.1.1 hw (ci := 8) (fs := [.ref (α 0 0 1), .ref (α 0 0 2), .ref (α 0 0 3), .ref (α 0 0 4), .ref (α 0 0 5), .int (nI nw), .int (nI no), .int (nI nt), .int (κ 0 0 0), .int (nI wk)]) (v := .int (κ 0 0 0)) hR.x iX8_setFloor_8 rfl 8 (by decide) rfl (by decide +kernel) dX8_setFloor_8 ?_
  refine lv_istore_n (lv' := [(2, .int (κ 0 0 0)), (0, .ref (α 0 0 0)), (1, .int p0)]) hx hb dX8_setFloor_11 rfl hl (by decide) rfl (fun ls hl => ?_)
  refine lv_aload_n hx hb dX8_setFloor_12 rfl (lv_at hl 1 rfl) ?_
  refine lv_iload_n hx hb dX8_setFloor_13 rfl (lv_at hl 2 rfl) ?_
  refine fw_put hx hb hts hown hE.1.1 hw (ci := 8) (fs := [.ref (α 0 0 1), .ref (α 0 0 2), .ref (α 0 0 3), .ref (α 0 0 4), .ref (α 0 0 5), .int (nI nw), .int (nI no), .int (nI nt), .int (κ 0 0 0), .int (nI wk)]) (v := .int p0) hR.x iX8_setFloor_8 tyX8 tyX8_ok nmX8 rfl 8 (by decide) rfl rfl rfl (Nat.le_of_ble_eq_true rfl) (by decide +kernel) dX8_setFloor_14 (fun H locs hw => ?_)
  obtain ⟨f4, ef4⟩ : ∃ z, z = fw_up f (α 0 0 0) (.inr (8, [.ref (α 0 0 1), .ref (α 0 0 2), .ref (α 0 0 3), .ref (α 0 0 4), .ref (α 0 0 5), .int (nI nw), .int (nI no), .int (nI nt), .int p0, .int (nI wk)])) := ⟨_, rfl⟩
  have hw : fw_S D A s.heap f4 H locs := by rw [ef4]; exact hw
  have h5 : f4 (α 0 0 0) = some (.inr (8, [.ref (α 0 0 1), .ref (α 0 0 2), .ref (α 0 0 3), .ref (α 0 0 4), .ref (α 0 0 5), .int (nI nw), .int (nI no), .int (nI nt), .int p0, .int (nI wk)])) := by rw [ef4]; exact fw_up_s
  refine lv_iload_n hx hb dX8_setFloor_17 rfl (lv_at hl 0 rfl) ?_
  exact vx_ret (fw_iret hx hb hr hlocks hw (Nat.le_of_ble_eq_true rfl) (Nat.le_of_ble_eq_true rfl) dX8_setFloor_18 (⟨hin1, rfl, by rw [ef4]; exact hR.setFl p0⟩))
