theorem nI_dec {a : Nat} (h : 0 < a) : nI a + Int32.ofInt (-1) = nI (a - 1) := by
  obtain ⟨b, rfl⟩ : ∃ b, a = b + 1 := ⟨a - 1, by omega⟩
  rw [show Int32.ofInt (-1) = -1 from rfl, Nat.add_sub_cancel, ← nI_pred b]
  exact (Int32.sub_eq_add_neg _ _).symm
set_option maxHeartbeats 4000000 in
set_option maxRecDepth 100000 in
/-- in -/
theorem c_X9_in (l : Launch) (D : va_G) (A : Nat → Prop) (y : Nat → ClassId) (sa : Nat → Nat) (f : fw_F) (p0 p1 p2 : Int32) : Met l yX9_in wsX9_in ({ frames := 0, cells := 0, slots := 0, locals := 0 } : Room) (cPc D A y sa f [.int p0, .int p1, .int p2]) (cQi D A (fun r f1 => r = (if inr p0 p1 p2 then 1 else 0) ∧ f1 = f)) 0 0 A := by
  refine fw_met (by decide) rfl [.int p0, .int p1, .int p2] (Nat.le_of_ble_eq_true rfl) ?_
  intro p e s m args below meth c ls I hin hE hw hl
  obtain ⟨hx, hb, hr, hts, hown, hlocks, hml⟩ := I
  have hown : s.vm.findClass RX9 = some m.cls := hown
  have hl : lv_has ls 3 [(0, .int p0), (1, .int p1), (2, .int p2)] := hl
  refine lv_iload_n hx hb dX9_in_0 rfl (lv_at hl 0 rfl) ?_
  refine lv_iload_n hx hb dX9_in_1 rfl (lv_at hl 1 rfl) ?_
  refine lv_icmp_lt (tgt := 14) hx hb dX9_in_2 (by decide) (fun c_1 => ?_) (fun c_1 => ?_)
  · refine lv_iconst (v := 0) hx hb dX9_in_14 (by decide) ?_
    exact fw_zret hx hb hr hlocks hw (Nat.le_of_ble_eq_true rfl) (Nat.le_of_ble_eq_true rfl) (by decide +kernel) dX9_in_15 (⟨(if_neg (fun z => absurd c_1 (Int32.not_lt.mpr z.1))).symm, rfl⟩)
  · refine lv_iload_n hx hb dX9_in_5 rfl (lv_at hl 0 rfl) ?_
    refine lv_iload_n hx hb dX9_in_6 rfl (lv_at hl 2 rfl) ?_
    refine lv_icmp_gt (tgt := 14) hx hb dX9_in_7 (by decide) (fun c_2 => ?_) (fun c_2 => ?_)
    · refine lv_iconst (v := 0) hx hb dX9_in_14 (by decide) ?_
      exact fw_zret hx hb hr hlocks hw (Nat.le_of_ble_eq_true rfl) (Nat.le_of_ble_eq_true rfl) (by decide +kernel) dX9_in_15 (⟨(if_neg (fun z => absurd c_2 (Int32.not_lt.mpr z.2))).symm, rfl⟩)
    · refine lv_iconst (v := 1) hx hb dX9_in_10 (by decide) ?_
      refine lv_goto (tgt := 15) hx hb dX9_in_11 (by decide) ?_
      exact fw_zret hx hb hr hlocks hw (Nat.le_of_ble_eq_true rfl) (Nat.le_of_ble_eq_true rfl) (by decide +kernel) dX9_in_15 (⟨(if_pos ⟨Int32.not_lt.mp c_1, Int32.not_lt.mp c_2⟩).symm, rfl⟩)

set_option maxHeartbeats 4000000 in
set_option maxRecDepth 100000 in
/-- least -/
theorem c_X9_least (l : Launch) (D : va_G) (A : Nat → Prop) (y : Nat → ClassId) (sa : Nat → Nat) (f : fw_F) (p0 p1 : Int32) : Met l yX9_least wsX9_least ({ frames := 0, cells := 0, slots := 0, locals := 0 } : Room) (cPc D A y sa f [.int p0, .int p1]) (cQi D A (fun r f1 => r = lst p0 p1 ∧ f1 = f)) 0 0 A := by
  refine fw_met (by decide) rfl [.int p0, .int p1] (Nat.le_of_ble_eq_true rfl) ?_
  intro p e s m args below meth c ls I hin hE hw hl
  obtain ⟨hx, hb, hr, hts, hown, hlocks, hml⟩ := I
  have hown : s.vm.findClass RX9 = some m.cls := hown
  have hl : lv_has ls 2 [(0, .int p0), (1, .int p1)] := hl
  refine lv_iload_n hx hb dX9_least_0 rfl (lv_at hl 0 rfl) ?_
  refine lv_iload_n hx hb dX9_least_1 rfl (lv_at hl 1 rfl) ?_
  refine lv_icmp_ge (tgt := 9) hx hb dX9_least_2 (by decide) (fun c_1 => ?_) (fun c_1 => ?_)
  · refine lv_iload_n hx hb dX9_least_9 rfl (lv_at hl 1 rfl) ?_
    exact fw_iret hx hb hr hlocks hw (Nat.le_of_ble_eq_true rfl) (Nat.le_of_ble_eq_true rfl) dX9_least_10 (⟨(if_neg (Int32.not_lt.mpr c_1)).symm, rfl⟩)
  · refine lv_iload_n hx hb dX9_least_5 rfl (lv_at hl 0 rfl) ?_
    refine lv_goto (tgt := 10) hx hb dX9_least_6 (by decide) ?_
    exact fw_iret hx hb hr hlocks hw (Nat.le_of_ble_eq_true rfl) (Nat.le_of_ble_eq_true rfl) dX9_least_10 (⟨(if_pos (Int32.not_le.mp c_1)).symm, rfl⟩)

set_option maxHeartbeats 4000000 in
set_option maxRecDepth 100000 in
/-- X9_isWeek -/
theorem c_X9_isWeek (l : Launch) (D : va_G) (A : Nat → Prop) (y : Nat → ClassId) (sa : Nat → Nat) (f : fw_F) (p0 : Int32) : Met l yX9_isWeek wsX9_isWeek ({ frames := 1, cells := 0, slots := 0, locals := 22 } : Room) (cPc D A y sa f [.int p0]) (cQi D A (fun r f1 => r = (if inr p0 0 30 then 1 else 0) ∧ f1 = f)) 0 0 A := by
  refine fw_met (by decide) rfl [.int p0] (Nat.le_of_ble_eq_true rfl) ?_
  intro p e s m args below meth c ls I hin hE hw hl
  obtain ⟨hx, hb, hr, hts, hown, hlocks, hml⟩ := I
  have hown : s.vm.findClass RX9 = some m.cls := hown
  have hl : lv_has ls 1 [(0, .int p0)] := hl
  refine lv_iload_n hx hb dX9_isWeek_0 rfl (lv_at hl 0 rfl) ?_
  refine lv_iconst (v := 0) hx hb dX9_isWeek_1 (by decide) ?_
  refine lv_bipush (v := 30) hx hb dX9_isWeek_2 (by decide) ?_
  refine fw_callSi hx hb hml hown hts hE hw [.int p0, .int 0, .int 30] [] (c_X9_in l D A y sa f p0 0 30) (va_cwS 3 hts gX9_isWeek_X9_in rfl rfl rfl (by decide +kernel) ⟨Nat.le_of_ble_eq_true rfl, Nat.le_of_ble_eq_true rfl⟩) rfl hl.1 rfl (Nat.le_of_ble_eq_true rfl) dX9_isWeek_4 ⟨Nat.le_of_ble_eq_true rfl, Nat.le_of_ble_eq_true rfl⟩ (fun r1 f2 H locs hp3 hw => ?_)
  obtain ⟨hp3a, hp3b⟩ := hp3
  rw [hp3b] at hw
  rw [hp3a]
  exact fw_zret hx hb hr hlocks hw (Nat.le_of_ble_eq_true rfl) (Nat.le_of_ble_eq_true rfl) (by exact fw_bz) dX9_isWeek_7 (⟨rfl, rfl⟩)

set_option maxHeartbeats 4000000 in
set_option maxRecDepth 100000 in
/-- X9_isEmployer -/
theorem c_X9_isEmployer (l : Launch) (D : va_G) (A : Nat → Prop) (y : Nat → ClassId) (sa : Nat → Nat) (f : fw_F) (p0 : Int32) : Met l yX9_isEmployer wsX9_isEmployer ({ frames := 1, cells := 0, slots := 0, locals := 22 } : Room) (cPc D A y sa f [.int p0]) (cQi D A (fun r f1 => r = (if inr p0 0 2 then 1 else 0) ∧ f1 = f)) 0 0 A := by
  refine fw_met (by decide) rfl [.int p0] (Nat.le_of_ble_eq_true rfl) ?_
  intro p e s m args below meth c ls I hin hE hw hl
  obtain ⟨hx, hb, hr, hts, hown, hlocks, hml⟩ := I
  have hown : s.vm.findClass RX9 = some m.cls := hown
  have hl : lv_has ls 1 [(0, .int p0)] := hl
  refine lv_iload_n hx hb dX9_isEmployer_0 rfl (lv_at hl 0 rfl) ?_
  refine lv_iconst (v := 0) hx hb dX9_isEmployer_1 (by decide) ?_
  refine lv_iconst (v := 2) hx hb dX9_isEmployer_2 (by decide) ?_
  refine fw_callSi hx hb hml hown hts hE hw [.int p0, .int 0, .int 2] [] (c_X9_in l D A y sa f p0 0 2) (va_cwS 3 hts gX9_isEmployer_X9_in rfl rfl rfl (by decide +kernel) ⟨Nat.le_of_ble_eq_true rfl, Nat.le_of_ble_eq_true rfl⟩) rfl hl.1 rfl (Nat.le_of_ble_eq_true rfl) dX9_isEmployer_3 ⟨Nat.le_of_ble_eq_true rfl, Nat.le_of_ble_eq_true rfl⟩ (fun r1 f2 H locs hp3 hw => ?_)
  obtain ⟨hp3a, hp3b⟩ := hp3
  rw [hp3b] at hw
  rw [hp3a]
  exact fw_zret hx hb hr hlocks hw (Nat.le_of_ble_eq_true rfl) (Nat.le_of_ble_eq_true rfl) (by exact fw_bz) dX9_isEmployer_6 (⟨rfl, rfl⟩)

set_option maxHeartbeats 4000000 in
set_option maxRecDepth 100000 in
/-- X9_areHours -/
theorem c_X9_areHours (l : Launch) (D : va_G) (A : Nat → Prop) (y : Nat → ClassId) (sa : Nat → Nat) (f : fw_F) (p0 p1 : Int32) : Met l yX9_areHours wsX9_areHours ({ frames := 1, cells := 0, slots := 0, locals := 22 } : Room) (cPc D A y sa f [.int p0, .int p1]) (cQi D A (fun r f1 => r = (if inr p0 0 100 ∧ inr p1 0 100 then 1 else 0) ∧ f1 = f)) 0 0 A := by
  refine fw_met (by decide) rfl [.int p0, .int p1] (Nat.le_of_ble_eq_true rfl) ?_
  intro p e s m args below meth c ls I hin hE hw hl
  obtain ⟨hx, hb, hr, hts, hown, hlocks, hml⟩ := I
  have hown : s.vm.findClass RX9 = some m.cls := hown
  have hl : lv_has ls 2 [(0, .int p0), (1, .int p1)] := hl
  refine lv_iload_n hx hb dX9_areHours_0 rfl (lv_at hl 0 rfl) ?_
  refine lv_iconst (v := 0) hx hb dX9_areHours_1 (by decide) ?_
  refine lv_bipush (v := 100) hx hb dX9_areHours_2 (by decide) ?_
  refine fw_callSi hx hb hml hown hts hE hw [.int p0, .int 0, .int 100] [] (c_X9_in l D A y sa f p0 0 100) (va_cwS 3 hts gX9_areHours_X9_in rfl rfl rfl (by decide +kernel) ⟨Nat.le_of_ble_eq_true rfl, Nat.le_of_ble_eq_true rfl⟩) rfl hl.1 rfl (Nat.le_of_ble_eq_true rfl) dX9_areHours_4 ⟨Nat.le_of_ble_eq_true rfl, Nat.le_of_ble_eq_true rfl⟩ (fun r1 f2 H locs hp3 hw => ?_)
  obtain ⟨hp3a, hp3b⟩ := hp3
  rw [hp3b] at hw
  rw [hp3a]
  refine lv_if_eq (tgt := 24) hx hb dX9_areHours_7 (by decide) (fun c_4 => ?_) (fun c_4 => ?_)
  · have c_4 := fw_b0 c_4
    refine lv_iconst (v := 0) hx hb dX9_areHours_24 (by decide) ?_
    exact fw_zret hx hb hr hlocks hw (Nat.le_of_ble_eq_true rfl) (Nat.le_of_ble_eq_true rfl) (by decide +kernel) dX9_areHours_25 (⟨(if_neg (fun z => c_4 z.1)).symm, rfl⟩)
  · have c_4 := fw_b1 c_4
    refine lv_iload_n hx hb dX9_areHours_10 rfl (lv_at hl 1 rfl) ?_
    refine lv_iconst (v := 0) hx hb dX9_areHours_11 (by decide) ?_
    refine lv_bipush (v := 100) hx hb dX9_areHours_12 (by decide) ?_
    refine fw_callSi hx hb hml hown hts hE hw [.int p1, .int 0, .int 100] [] (c_X9_in l D A y sa f p1 0 100) (va_cwS 3 hts gX9_areHours_X9_in rfl rfl rfl (by decide +kernel) ⟨Nat.le_of_ble_eq_true rfl, Nat.le_of_ble_eq_true rfl⟩) rfl hl.1 rfl (Nat.le_of_ble_eq_true rfl) dX9_areHours_14 ⟨Nat.le_of_ble_eq_true rfl, Nat.le_of_ble_eq_true rfl⟩ (fun r5 f6 H locs hp7 hw => ?_)
    obtain ⟨hp7a, hp7b⟩ := hp7
    rw [hp7b] at hw
    rw [hp7a]
    refine lv_if_eq (tgt := 24) hx hb dX9_areHours_17 (by decide) (fun c_8 => ?_) (fun c_8 => ?_)
    · have c_8 := fw_b0 c_8
      refine lv_iconst (v := 0) hx hb dX9_areHours_24 (by decide) ?_
      exact fw_zret hx hb hr hlocks hw (Nat.le_of_ble_eq_true rfl) (Nat.le_of_ble_eq_true rfl) (by decide +kernel) dX9_areHours_25 (⟨(if_neg (fun z => c_8 z.2)).symm, rfl⟩)
    · have c_8 := fw_b1 c_8
      refine lv_iconst (v := 1) hx hb dX9_areHours_20 (by decide) ?_
      refine lv_goto (tgt := 25) hx hb dX9_areHours_21 (by decide) ?_
      exact fw_zret hx hb hr hlocks hw (Nat.le_of_ble_eq_true rfl) (Nat.le_of_ble_eq_true rfl) (by decide +kernel) dX9_areHours_25 (⟨(if_pos ⟨c_4, c_8⟩).symm, rfl⟩)

theorem iX9_isWorker_9 : ∀ w ∈ wsX90, w ∈ wsX9_isWorker := by decide +kernel
set_option maxHeartbeats 4000000 in
set_option maxRecDepth 100000 in
/-- X9_isWorker -/
theorem c_X9_isWorker (l : Launch) (D : va_G) (A : Nat → Prop) (y : Nat → ClassId) (sa : Nat → Nat) (f : fw_F) (β : Nat → Nat) (μ : mS) (p0 : Int32) (hR : Rm y μ β f) : Met l yX9_isWorker wsX9_isWorker ({ frames := 1, cells := 0, slots := 0, locals := 22 } : Room) (cPc D A y sa f [.ref (β 0), .int p0]) (cQi D A (fun r f1 => r = (if inr p0 0 (μ 2 0 - 1) then 1 else 0) ∧ f1 = f)) 0 0 A := by
  refine fw_met (by decide) rfl [.ref (β 0), .int p0] (Nat.le_of_ble_eq_true rfl) ?_
  intro p e s m args below meth c ls I hin hE hw hl
  obtain ⟨hx, hb, hr, hts, hown, hlocks, hml⟩ := I
  have hown : s.vm.findClass RX9 = some m.cls := hown
  have hl : lv_has ls 2 [(0, .ref (β 0)), (1, .int p0)] := hl
  refine lv_iload_n hx hb dX9_isWorker_0 rfl (lv_at hl 1 rfl) ?_
  refine lv_iconst (v := 0) hx hb dX9_isWorker_1 (by decide) ?_
  refine lv_aload_n hx hb dX9_isWorker_2 rfl (lv_at hl 0 rfl) ?_
  refine fw_get hx hb hts hown hE.1.1 hw (ci := 9) (fs := [.int (μ 0 0), .int (μ 1 0), .int (μ 2 0), .ref (β 3), .ref (β 4), .ref (β 5), .ref (β 6), .ref (β 7), .ref (β 8), .ref (β 9), .ref (β 10), .ref (β 11), .ref (β 12), .int (μ 13 0), .ref (β 14), .ref (β 15), .ref (β 16), .ref (β 17), .int (μ 18 0), .ref (β 19), .ref (β 20), .int (μ 21 0), .ref (β 22), .ref (β 23), .ref (β 24)]) (v := .int (μ 2 0)) hR.o iX9_isWorker_9 rfl 2 (by decide) rfl (by decide +kernel) dX9_isWorker_3 ?_
  refine lv_iconst (v := 1) hx hb dX9_isWorker_6 (by decide) ?_
  refine lv_isub hx hb dX9_isWorker_7 ?_
  refine fw_callSi hx hb hml hown hts hE hw [.int p0, .int 0, .int ((μ 2 0) - 1)] [] (c_X9_in l D A y sa f p0 0 ((μ 2 0) - 1)) (va_cwS 3 hts gX9_isWorker_X9_in rfl rfl rfl (by decide +kernel) ⟨Nat.le_of_ble_eq_true rfl, Nat.le_of_ble_eq_true rfl⟩) rfl hl.1 rfl (Nat.le_of_ble_eq_true rfl) dX9_isWorker_8 ⟨Nat.le_of_ble_eq_true rfl, Nat.le_of_ble_eq_true rfl⟩ (fun r1 f2 H locs hp3 hw => ?_)
  obtain ⟨hp3a, hp3b⟩ := hp3
  rw [hp3b] at hw
  rw [hp3a]
  exact fw_zret hx hb hr hlocks hw (Nat.le_of_ble_eq_true rfl) (Nat.le_of_ble_eq_true rfl) (by exact fw_bz) dX9_isWorker_11 (⟨rfl, rfl⟩)

theorem iX9_holds_9 : ∀ w ∈ wsX90, w ∈ wsX9_holds := by decide +kernel
set_option maxHeartbeats 4000000 in
set_option maxRecDepth 100000 in
/-- X9_holds -/
theorem c_X9_holds (l : Launch) (D : va_G) (A : Nat → Prop) (y : Nat → ClassId) (sa : Nat → Nat) (f : fw_F) (β : Nat → Nat) (μ : mS) (p0 : Int32) (hR : Rm y μ β f) : Met l yX9_holds wsX9_holds ({ frames := 0, cells := 0, slots := 0, locals := 0 } : Room) (cPc D A y sa f [.ref (β 0), .int p0]) (cQi D A (fun r f1 => r = (if p0 = 0 then 1 else 0) ∧ Rm y (up2 μ 0 0 p0) β f1)) 0 0 A := by
  refine fw_met (by decide) rfl [.ref (β 0), .int p0] (Nat.le_of_ble_eq_true rfl) ?_
  intro p e s m args below meth c ls I hin hE hw hl
  obtain ⟨hx, hb, hr, hts, hown, hlocks, hml⟩ := I
  have hown : s.vm.findClass RX9 = some m.cls := hown
  have hl : lv_has ls 2 [(0, .ref (β 0)), (1, .int p0)] := hl
  refine lv_aload_n hx hb dX9_holds_0 rfl (lv_at hl 0 rfl) ?_
  refine lv_iload_n hx hb dX9_holds_1 rfl (lv_at hl 1 rfl) ?_
  refine fw_put hx hb hts hown hE.1.1 hw (ci := 9) (fs := [.int (μ 0 0), .int (μ 1 0), .int (μ 2 0), .ref (β 3), .ref (β 4), .ref (β 5), .ref (β 6), .ref (β 7), .ref (β 8), .ref (β 9), .ref (β 10), .ref (β 11), .ref (β 12), .int (μ 13 0), .ref (β 14), .ref (β 15), .ref (β 16), .ref (β 17), .int (μ 18 0), .ref (β 19), .ref (β 20), .int (μ 21 0), .ref (β 22), .ref (β 23), .ref (β 24)]) (v := .int p0) hR.o iX9_holds_9 tyX9 tyX9_ok nmX9 rfl 0 (by decide) rfl rfl rfl (Nat.le_of_ble_eq_true rfl) (by decide +kernel) dX9_holds_2 (fun H locs hw => ?_)
  obtain ⟨f1, ef1⟩ : ∃ z, z = fw_up f (β 0) (.inr (9, [.int p0, .int (μ 1 0), .int (μ 2 0), .ref (β 3), .ref (β 4), .ref (β 5), .ref (β 6), .ref (β 7), .ref (β 8), .ref (β 9), .ref (β 10), .ref (β 11), .ref (β 12), .int (μ 13 0), .ref (β 14), .ref (β 15), .ref (β 16), .ref (β 17), .int (μ 18 0), .ref (β 19), .ref (β 20), .int (μ 21 0), .ref (β 22), .ref (β 23), .ref (β 24)])) := ⟨_, rfl⟩
  have hw : fw_S D A s.heap f1 H locs := by rw [ef1]; exact hw
  have hR : Rm y (up2 μ 0 0 p0) β f1 := by rw [ef1]; exact hR.p0 p0
  refine lv_iload_n hx hb dX9_holds_5 rfl (lv_at hl 1 rfl) ?_
  refine lv_if_ne (tgt := 13) hx hb dX9_holds_6 (by decide) (fun c_2 => ?_) (fun c_2 => ?_)
  · refine lv_iconst (v := 0) hx hb dX9_holds_13 (by decide) ?_
    exact fw_zret hx hb hr hlocks hw (Nat.le_of_ble_eq_true rfl) (Nat.le_of_ble_eq_true rfl) (by decide +kernel) dX9_holds_14 (⟨(if_neg c_2).symm, hR⟩)
  · refine lv_iconst (v := 1) hx hb dX9_holds_9 (by decide) ?_
    refine lv_goto (tgt := 14) hx hb dX9_holds_10 (by decide) ?_
    exact fw_zret hx hb hr hlocks hw (Nat.le_of_ble_eq_true rfl) (Nat.le_of_ble_eq_true rfl) (by decide +kernel) dX9_holds_14 (⟨(if_pos c_2).symm, hR⟩)

theorem iX9_thrown_9 : ∀ w ∈ wsX90, w ∈ wsX9_thrown := by decide +kernel
set_option maxHeartbeats 4000000 in
set_option maxRecDepth 100000 in
/-- X9_thrown -/
theorem c_X9_thrown (l : Launch) (D : va_G) (A : Nat → Prop) (y : Nat → ClassId) (sa : Nat → Nat) (f : fw_F) (β : Nat → Nat) (μ : mS) (hR : Rm y μ β f) : Met l yX9_thrown wsX9_thrown ({ frames := 0, cells := 0, slots := 0, locals := 0 } : Room) (cPc D A y sa f [.ref (β 0)]) (cQi D A (fun r f1 => r = μ 0 0 ∧ f1 = f)) 0 0 A := by
  refine fw_met (by decide) rfl [.ref (β 0)] (Nat.le_of_ble_eq_true rfl) ?_
  intro p e s m args below meth c ls I hin hE hw hl
  obtain ⟨hx, hb, hr, hts, hown, hlocks, hml⟩ := I
  have hown : s.vm.findClass RX9 = some m.cls := hown
  have hl : lv_has ls 1 [(0, .ref (β 0))] := hl
  refine lv_aload_n hx hb dX9_thrown_0 rfl (lv_at hl 0 rfl) ?_
  refine fw_get hx hb hts hown hE.1.1 hw (ci := 9) (fs := [.int (μ 0 0), .int (μ 1 0), .int (μ 2 0), .ref (β 3), .ref (β 4), .ref (β 5), .ref (β 6), .ref (β 7), .ref (β 8), .ref (β 9), .ref (β 10), .ref (β 11), .ref (β 12), .int (μ 13 0), .ref (β 14), .ref (β 15), .ref (β 16), .ref (β 17), .int (μ 18 0), .ref (β 19), .ref (β 20), .int (μ 21 0), .ref (β 22), .ref (β 23), .ref (β 24)]) (v := .int (μ 0 0)) hR.o iX9_thrown_9 rfl 0 (by decide) rfl (by decide +kernel) dX9_thrown_1 ?_
  exact fw_iret hx hb hr hlocks hw (Nat.le_of_ble_eq_true rfl) (Nat.le_of_ble_eq_true rfl) dX9_thrown_4 (⟨rfl, rfl⟩)

theorem iX9_week_9 : ∀ w ∈ wsX90, w ∈ wsX9_week := by decide +kernel
set_option maxHeartbeats 4000000 in
set_option maxRecDepth 100000 in
/-- X9_week -/
theorem c_X9_week (l : Launch) (D : va_G) (A : Nat → Prop) (y : Nat → ClassId) (sa : Nat → Nat) (f : fw_F) (β : Nat → Nat) (μ : mS) (hR : Rm y μ β f) : Met l yX9_week wsX9_week ({ frames := 0, cells := 0, slots := 0, locals := 0 } : Room) (cPc D A y sa f [.ref (β 0)]) (cQi D A (fun r f1 => r = μ 1 0 ∧ Rm y (up2 μ 0 0 0) β f1)) 0 0 A := by
  refine fw_met (by decide) rfl [.ref (β 0)] (Nat.le_of_ble_eq_true rfl) ?_
  intro p e s m args below meth c ls I hin hE hw hl
  obtain ⟨hx, hb, hr, hts, hown, hlocks, hml⟩ := I
  have hown : s.vm.findClass RX9 = some m.cls := hown
  have hl : lv_has ls 1 [(0, .ref (β 0))] := hl
  refine lv_aload_n hx hb dX9_week_0 rfl (lv_at hl 0 rfl) ?_
  refine lv_iconst (v := 0) hx hb dX9_week_1 (by decide) ?_
  refine fw_put hx hb hts hown hE.1.1 hw (ci := 9) (fs := [.int (μ 0 0), .int (μ 1 0), .int (μ 2 0), .ref (β 3), .ref (β 4), .ref (β 5), .ref (β 6), .ref (β 7), .ref (β 8), .ref (β 9), .ref (β 10), .ref (β 11), .ref (β 12), .int (μ 13 0), .ref (β 14), .ref (β 15), .ref (β 16), .ref (β 17), .int (μ 18 0), .ref (β 19), .ref (β 20), .int (μ 21 0), .ref (β 22), .ref (β 23), .ref (β 24)]) (v := .int 0) hR.o iX9_week_9 tyX9 tyX9_ok nmX9 rfl 0 (by decide) rfl rfl rfl (Nat.le_of_ble_eq_true rfl) (by decide +kernel) dX9_week_2 (fun H locs hw => ?_)
  obtain ⟨f1, ef1⟩ : ∃ z, z = fw_up f (β 0) (.inr (9, [.int 0, .int (μ 1 0), .int (μ 2 0), .ref (β 3), .ref (β 4), .ref (β 5), .ref (β 6), .ref (β 7), .ref (β 8), .ref (β 9), .ref (β 10), .ref (β 11), .ref (β 12), .int (μ 13 0), .ref (β 14), .ref (β 15), .ref (β 16), .ref (β 17), .int (μ 18 0), .ref (β 19), .ref (β 20), .int (μ 21 0), .ref (β 22), .ref (β 23), .ref (β 24)])) := ⟨_, rfl⟩
  have hw : fw_S D A s.heap f1 H locs := by rw [ef1]; exact hw
  have hR : Rm y (up2 μ 0 0 0) β f1 := by rw [ef1]; exact hR.p0 0
  refine lv_aload_n hx hb dX9_week_5 rfl (lv_at hl 0 rfl) ?_
  refine fw_get hx hb hts hown hE.1.1 hw (ci := 9) (fs := [.int 0, .int (μ 1 0), .int (μ 2 0), .ref (β 3), .ref (β 4), .ref (β 5), .ref (β 6), .ref (β 7), .ref (β 8), .ref (β 9), .ref (β 10), .ref (β 11), .ref (β 12), .int (μ 13 0), .ref (β 14), .ref (β 15), .ref (β 16), .ref (β 17), .int (μ 18 0), .ref (β 19), .ref (β 20), .int (μ 21 0), .ref (β 22), .ref (β 23), .ref (β 24)]) (v := .int (μ 1 0)) hR.o iX9_week_9 rfl 1 (by decide) rfl (by decide +kernel) dX9_week_6 ?_
  exact fw_iret hx hb hr hlocks hw (Nat.le_of_ble_eq_true rfl) (Nat.le_of_ble_eq_true rfl) dX9_week_9 (⟨rfl, hR⟩)

set_option maxHeartbeats 4000000 in
set_option maxRecDepth 100000 in
/-- X9_told -/
theorem c_X9_told (l : Launch) (D : va_G) (A : Nat → Prop) (y : Nat → ClassId) (sa : Nat → Nat) (f : fw_F) (ar ln o k : Nat) (gg : Nat → Int32) (har : f ar = some (.inl (y 0, ln, .inl gg))) (hlt : 31 * o + k < ln) (hln : ln < 100000) (hb0 : ¬ gg (31 * o) = -1) : Met l yX9_told wsX9_told ({ frames := 0, cells := 0, slots := 0, locals := 0 } : Room) (cPc D A y sa f [.ref ar, .int (nI o), .int (nI k)]) (cQi D A (fun r f1 => r = nI (tld gg (31 * o + k)) ∧ f1 = f)) 0 0 A := by
  refine fw_met (by decide) rfl [.ref ar, .int (nI o), .int (nI k)] (Nat.le_of_ble_eq_true rfl) ?_
  intro p e s m args below meth c ls I hin hE hw hl
  obtain ⟨hx, hb, hr, hts, hown, hlocks, hml⟩ := I
  have hown : s.vm.findClass RX9 = some m.cls := hown
  have hl : lv_has ls 4 [(0, .ref ar), (1, .int (nI o)), (2, .int (nI k))] := hl
  refine lv_bipush (v := 31) hx hb dX9_told_0 (by decide) ?_
  refine lv_iload_n hx hb dX9_told_2 rfl (lv_at hl 1 rfl) ?_
  refine lv_imul hx hb dX9_told_3 ?_
  rw [show ((31 * (nI o)) : Int32) = (nI (31 * o)) from nI_mul (31) (o)]
  refine lv_iload_n hx hb dX9_told_4 rfl (lv_at hl 2 rfl) ?_
  refine lv_iadd hx hb dX9_told_5 ?_
  rw [show (((nI (31 * o)) + (nI k)) : Int32) = (nI (((31 * o)) + k)) from nI_add ((31 * o)) (k)]
  refine lv_istore_n (lv' := [(3, .int (nI (((31 * o)) + k))), (0, .ref ar), (1, .int (nI o)), (2, .int (nI k))]) hx hb dX9_told_6 rfl hl (by decide) rfl (fun ls hl => ?_)
  refine fw_loop 7 4 (fun r : Nat => r) (fun r => 31 * o ≤ r ∧ r < ln ∧ tld gg r = tld gg (31 * o + k)) (fun r => f) (fun r => [(3, .int (nI r)), (0, .ref ar), (1, .int (nI o)), (2, .int (nI k))]) (fun r => []) (fun r => 0) (fun r => 0) (fun i H locs ls hP hw hl IH => ?_) (31 * o + k) s.heap [] ls ⟨by omega, hlt, rfl⟩ hw (lv_sub hl [0, 1, 2, 3] rfl)
  obtain ⟨hP1, hP2, hP3⟩ := hP
  skip
  try dsimp only at hw
  try dsimp only at hl
  try dsimp only at IH
  try dsimp only at ⊢
  refine lv_aload_n hx hb dX9_told_7 rfl (lv_at hl 1 rfl) ?_
  refine lv_iload_n hx hb dX9_told_8 rfl (lv_at hl 0 rfl) ?_
  refine fw_iald hx hb hE.1.1 hw (g := gg) har 0 rfl (vp_in_nI hP2 (by omega)) dX9_told_9 ?_
  rw [nI_clamp (n := i) (by omega)]
  refine lv_iconst (v := (-1)) hx hb dX9_told_10 (by decide) ?_
  refine lv_icmp_ne (tgt := 20) hx hb dX9_told_11 (by decide) (fun c_1 => ?_) (fun c_1 => ?_)
  · refine lv_iload_n hx hb dX9_told_20 rfl (lv_at hl 0 rfl) ?_
    exact fw_iret hx hb hr hlocks hw (Nat.le_of_ble_eq_true rfl) (Nat.le_of_ble_eq_true rfl) dX9_told_21 (⟨by rw [← hP3, tld_stop c_1], rfl⟩)
  · have hi1 : 31 * o < i := by
      rcases Nat.lt_or_ge (31 * o) i with q | q
      · exact q
      · exact absurd (show gg (31 * o) = -1 by rw [show 31 * o = i by omega]; exact c_1) hb0
    have hi0 : 0 < i := by omega
    refine lv_iinc (v := (nI (i - 1))) (lv' := [(3, .int (nI (i - 1))), (0, .ref ar), (1, .int (nI o)), (2, .int (nI k))]) hx hb dX9_told_14 hl (k := 0) rfl (nI_dec (by omega)) (by decide) rfl (fun ls hl => ?_)
    refine lv_goto (tgt := 7) hx hb dX9_told_17 (by decide) ?_
    exact IH (i - 1) _ _ _ (by omega) ⟨by omega, by omega, by rw [← hP3, tld_step hi0 c_1]⟩ hw (lv_sub hl [0, 1, 2, 3] rfl)

theorem iX9_counting_9 : ∀ w ∈ wsX90, w ∈ wsX9_counting := by decide +kernel
set_option maxHeartbeats 4000000 in
set_option maxRecDepth 100000 in
/-- X9_counting -/
theorem c_X9_counting (l : Launch) (D : va_G) (A : Nat → Prop) (y : Nat → ClassId) (sa : Nat → Nat) (f : fw_F) (β : Nat → Nat) (μ : mS) (w : Nat) (hw8 : w < 8) (hR : Rm y μ β f) : Met l yX9_counting wsX9_counting ({ frames := 0, cells := 0, slots := 0, locals := 0 } : Room) (cPc D A y sa f [.ref (β 0), .int (nI w)]) (cQi D A (fun r f1 => r = nI (cnM μ w) ∧ f1 = f)) 0 0 A := by
  refine fw_met (by decide) rfl [.ref (β 0), .int (nI w)] (Nat.le_of_ble_eq_true rfl) ?_
  intro p e s m args below meth c ls I hin hE hw hl
  obtain ⟨hx, hb, hr, hts, hown, hlocks, hml⟩ := I
  have hown : s.vm.findClass RX9 = some m.cls := hown
  have hl : lv_has ls 3 [(0, .ref (β 0)), (1, .int (nI w))] := hl
  refine lv_iconst (v := 0) hx hb dX9_counting_0 (by decide) ?_
  refine lv_istore_n (lv' := [(2, .int 0), (0, .ref (β 0)), (1, .int (nI w))]) hx hb dX9_counting_1 rfl hl (by decide) rfl (fun ls hl => ?_)
  refine fw_loop 2 3 (fun r : Nat => 20 - r) (fun r => r ≤ 20 ∧ cntM (μ 7) (20 * w) (20 - r) r = cnM μ w) (fun r => f) (fun r => [(2, .int (nI r)), (0, .ref (β 0)), (1, .int (nI w))]) (fun r => []) (fun r => 0) (fun r => 0) (fun i H locs ls hP hw hl IH => ?_) 0 s.heap [] ls ⟨by omega, rfl⟩ hw (lv_sub hl [0, 1, 2] rfl)
  obtain ⟨hP1, hP2⟩ := hP
  skip
  try dsimp only at hw
  try dsimp only at hl
  try dsimp only at IH
  try dsimp only at ⊢
  refine lv_iload_n hx hb dX9_counting_2 rfl (lv_at hl 0 rfl) ?_
  refine lv_bipush (v := 20) hx hb dX9_counting_3 (by decide) ?_
  refine lv_icmp_ge (tgt := 29) hx hb dX9_counting_5 (by decide) (fun c_1 => ?_) (fun c_1 => ?_)
  · refine lv_iload_n hx hb dX9_counting_29 rfl (lv_at hl 0 rfl) ?_
    exact fw_iret hx hb hr hlocks hw (Nat.le_of_ble_eq_true rfl) (Nat.le_of_ble_eq_true rfl) dX9_counting_30 (⟨by obtain rfl := nI_eqn (n := 20) c_1 hP1 (by decide); rw [← hP2]; rfl, rfl⟩)
  · have hi20 : i < 20 := nI_hi (n := 20) c_1 (by omega)
    refine lv_aload_n hx hb dX9_counting_8 rfl (lv_at hl 1 rfl) ?_
    refine fw_get hx hb hts hown hE.1.1 hw (ci := 9) (fs := [.int (μ 0 0), .int (μ 1 0), .int (μ 2 0), .ref (β 3), .ref (β 4), .ref (β 5), .ref (β 6), .ref (β 7), .ref (β 8), .ref (β 9), .ref (β 10), .ref (β 11), .ref (β 12), .int (μ 13 0), .ref (β 14), .ref (β 15), .ref (β 16), .ref (β 17), .int (μ 18 0), .ref (β 19), .ref (β 20), .int (μ 21 0), .ref (β 22), .ref (β 23), .ref (β 24)]) (v := .ref (β 7)) hR.o iX9_counting_9 rfl 7 (by decide) rfl (by decide +kernel) dX9_counting_9 ?_
    refine lv_bipush (v := 20) hx hb dX9_counting_12 (by decide) ?_
    refine lv_iload_n hx hb dX9_counting_14 rfl (lv_at hl 2 rfl) ?_
    refine lv_imul hx hb dX9_counting_15 ?_
    rw [show ((20 * (nI w)) : Int32) = (nI (20 * w)) from nI_mul (20) (w)]
    refine lv_iload_n hx hb dX9_counting_16 rfl (lv_at hl 0 rfl) ?_
    refine lv_iadd hx hb dX9_counting_17 ?_
    rw [show (((nI (20 * w)) + (nI i)) : Int32) = (nI (((20 * w)) + i)) from nI_add ((20 * w)) (i)]
    refine fw_iald hx hb hE.1.1 hw (g := (μ 7)) hR.a7 0 rfl (vp_in_nI (by omega) (by decide)) dX9_counting_18 ?_
    rw [nI_clamp (n := (((20 * w)) + i)) (by omega)]
    refine lv_iconst (v := (-1)) hx hb dX9_counting_19 (by decide) ?_
    refine lv_icmp_eq (tgt := 29) hx hb dX9_counting_20 (by decide) (fun c_2 => ?_) (fun c_2 => ?_)
    · refine lv_iload_n hx hb dX9_counting_29 rfl (lv_at hl 0 rfl) ?_
      exact fw_iret hx hb hr hlocks hw (Nat.le_of_ble_eq_true rfl) (Nat.le_of_ble_eq_true rfl) dX9_counting_30 (⟨by rw [← hP2, show 20 - i = (20 - (i + 1)) + 1 by omega, cntM, if_pos c_2], rfl⟩)
    · refine lv_iinc (v := (nI (i + 1))) (lv' := [(2, .int (nI (i + 1))), (0, .ref (β 0)), (1, .int (nI w))]) hx hb dX9_counting_23 hl (k := 0) rfl (nI_1 (i)) (by decide) rfl (fun ls hl => ?_)
      refine lv_goto (tgt := 2) hx hb dX9_counting_26 (by decide) ?_
      exact IH (i + 1) _ _ _ (by omega) ⟨by omega, by rw [← hP2, show 20 - i = (20 - (i + 1)) + 1 by omega]; exact (if_neg c_2).symm⟩ hw (lv_sub hl [0, 1, 2] rfl)
