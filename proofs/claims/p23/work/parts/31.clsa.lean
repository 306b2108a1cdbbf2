theorem ix_of {x N : Int32} {n : Nat} (hN : N.toInt = n) (h0 : ¬ x < 0) (h1 : ¬ N ≤ x) : ∃ j, j < n ∧ x = nI j := by
  obtain ⟨j, hj, rfl⟩ := nI_of h0
  refine ⟨j, ?_, rfl⟩
  rw [Int32.le_iff_toInt_le, nI_toInt hj, hN] at h1
  omega
set_option maxHeartbeats 4000000 in
set_option maxRecDepth 100000 in
/-- checkRange -/
theorem c_X8_checkRange (l : Launch) (D : va_G) (A : Nat → Prop) (y : Nat → ClassId) (sa : Nat → Nat) (f : fw_F) (hfl : l.stackTraces = false) (p0 p1 p2 : Int32) : vx_Met l yX8_checkRange wsX8_checkRange ({ frames := 6, cells := 1, slots := 6, locals := 88 } : Room) (cPc D A y sa f [.int p0, .int p1, .int p2]) (cQv D A (fun f1 => inr p0 p1 p2 ∧ f1 = f)) (cX D A f (fun E => E = nIAE ∧ ¬ inr p0 p1 p2)) 1 6 A := by
  refine fw_xmet (by decide) rfl [.int p0, .int p1, .int p2] (Nat.le_of_ble_eq_true rfl) ?_
  intro p e s m args below meth c ls I htab hE hw hl
  obtain ⟨hx, hb, hr, hts, hown, hlocks, hml⟩ := I
  have hown : s.vm.findClass RX8 = some m.cls := hown
  have hl : lv_has ls 3 [(0, .int p0), (1, .int p1), (2, .int p2)] := hl
  refine lv_iload_n hx hb dX8_checkRange_0 rfl (lv_at hl 0 rfl) ?_
  refine lv_iload_n hx hb dX8_checkRange_1 rfl (lv_at hl 1 rfl) ?_
  refine lv_icmp_lt (tgt := 10) hx hb dX8_checkRange_2 (by decide) (fun c_1 => ?_) (fun c_1 => ?_)
  · exact fw_throw (ic := 215) (ik := 211) (is := 213) (cls := nIAE) (text := "an argument is out of range") hx hb hfl hts hown hE hw htab hlocks thIAE (fun w h => List.mem_cons_of_mem _ (List.mem_append_right _ h)) (by decide +kernel) (by decide +kernel) (by decide +kernel) (hl.1.trans hml.symm) dX8_checkRange_10 dX8_checkRange_13 dX8_checkRange_14 dX8_checkRange_16 dX8_checkRange_19 (Nat.le_of_ble_eq_true rfl) (Nat.le_of_ble_eq_true rfl) (Nat.le_of_ble_eq_true rfl) (Nat.le_of_ble_eq_true rfl) (⟨rfl, fun z => absurd c_1 (Int32.not_lt.mpr z.1)⟩) (Nat.le_of_ble_eq_true rfl) (Nat.le_of_ble_eq_true rfl)
  · refine lv_iload_n hx hb dX8_checkRange_5 rfl (lv_at hl 0 rfl) ?_
    refine lv_iload_n hx hb dX8_checkRange_6 rfl (lv_at hl 2 rfl) ?_
    refine lv_icmp_le (tgt := 20) hx hb dX8_checkRange_7 (by decide) (fun c_2 => ?_) (fun c_2 => ?_)
    · exact vx_ret (fw_vret hx hb hr hlocks hw (Nat.le_of_ble_eq_true rfl) (Nat.le_of_ble_eq_true rfl) dX8_checkRange_20 (⟨⟨Int32.not_lt.mp c_1, c_2⟩, rfl⟩))
    · exact fw_throw (ic := 215) (ik := 211) (is := 213) (cls := nIAE) (text := "an argument is out of range") hx hb hfl hts hown hE hw htab hlocks thIAE (fun w h => List.mem_cons_of_mem _ (List.mem_append_right _ h)) (by decide +kernel) (by decide +kernel) (by decide +kernel) (hl.1.trans hml.symm) dX8_checkRange_10 dX8_checkRange_13 dX8_checkRange_14 dX8_checkRange_16 dX8_checkRange_19 (Nat.le_of_ble_eq_true rfl) (Nat.le_of_ble_eq_true rfl) (Nat.le_of_ble_eq_true rfl) (Nat.le_of_ble_eq_true rfl) (⟨rfl, fun z => absurd z.2 c_2⟩) (Nat.le_of_ble_eq_true rfl) (Nat.le_of_ble_eq_true rfl)

set_option maxHeartbeats 4000000 in
set_option maxRecDepth 100000 in
/-- checkWeek -/
theorem c_X8_checkWeek (l : Launch) (D : va_G) (A : Nat → Prop) (y : Nat → ClassId) (sa : Nat → Nat) (f : fw_F) (hfl : l.stackTraces = false) (p0 : Int32) : vx_Met l yX8_checkWeek wsX8_checkWeek ({ frames := 7, cells := 1, slots := 6, locals := 110 } : Room) (cPc D A y sa f [.int p0]) (cQv D A (fun f1 => inr p0 0 30 ∧ f1 = f)) (cX D A f (fun E => E = nIAE ∧ ¬ inr p0 0 30)) 1 6 A := by
  refine fw_xmet (by decide) rfl [.int p0] (Nat.le_of_ble_eq_true rfl) ?_
  intro p e s m args below meth c ls I htab hE hw hl
  obtain ⟨hx, hb, hr, hts, hown, hlocks, hml⟩ := I
  have hown : s.vm.findClass RX8 = some m.cls := hown
  have hl : lv_has ls 1 [(0, .int p0)] := hl
  refine lv_iload_n hx hb dX8_checkWeek_0 rfl (lv_at hl 0 rfl) ?_
  refine lv_iconst (v := 0) hx hb dX8_checkWeek_1 (by decide) ?_
  refine lv_bipush (v := 30) hx hb dX8_checkWeek_2 (by decide) ?_
  refine fw_tSv hx hb hml hown hts hE hw htab hlocks [.int p0, .int 0, .int 30] [] (c_X8_checkRange l D A y sa f hfl p0 0 30) (va_cwS 3 hts gX8_checkWeek_X8_checkRange rfl rfl rfl (by decide +kernel) ⟨Nat.le_of_ble_eq_true rfl, Nat.le_of_ble_eq_true rfl⟩) rfl hl.1 rfl (Nat.le_of_ble_eq_true rfl) dX8_checkWeek_4 ⟨Nat.le_of_ble_eq_true rfl, Nat.le_of_ble_eq_true rfl⟩ (fun E h => h) (Nat.le_of_ble_eq_true rfl) (Nat.le_of_ble_eq_true rfl) (fun f2 H locs hp3 hw => ?_)
  obtain ⟨hin1, hp3b⟩ := hp3
  rw [hp3b] at hw
  exact vx_ret (fw_vret hx hb hr hlocks hw (Nat.le_of_ble_eq_true rfl) (Nat.le_of_ble_eq_true rfl) dX8_checkWeek_7 (⟨hin1, rfl⟩))

set_option maxHeartbeats 4000000 in
set_option maxRecDepth 100000 in
/-- checkHours -/
theorem c_X8_checkHours (l : Launch) (D : va_G) (A : Nat → Prop) (y : Nat → ClassId) (sa : Nat → Nat) (f : fw_F) (hfl : l.stackTraces = false) (p0 p1 : Int32) : vx_Met l yX8_checkHours wsX8_checkHours ({ frames := 7, cells := 2, slots := 12, locals := 110 } : Room) (cPc D A y sa f [.int p0, .int p1]) (cQv D A (fun f1 => (inr p0 0 100 ∧ inr p1 0 100) ∧ f1 = f)) (cX D A f (fun E => E = nIAE ∧ ¬ (inr p0 0 100 ∧ inr p1 0 100))) 2 12 A := by
  refine fw_xmet (by decide) rfl [.int p0, .int p1] (Nat.le_of_ble_eq_true rfl) ?_
  intro p e s m args below meth c ls I htab hE hw hl
  obtain ⟨hx, hb, hr, hts, hown, hlocks, hml⟩ := I
  have hown : s.vm.findClass RX8 = some m.cls := hown
  have hl : lv_has ls 2 [(0, .int p0), (1, .int p1)] := hl
  refine lv_iload_n hx hb dX8_checkHours_0 rfl (lv_at hl 0 rfl) ?_
  refine lv_iconst (v := 0) hx hb dX8_checkHours_1 (by decide) ?_
  refine lv_bipush (v := 100) hx hb dX8_checkHours_2 (by decide) ?_
  refine fw_tSv hx hb hml hown hts hE hw htab hlocks [.int p0, .int 0, .int 100] [] (c_X8_checkRange l D A y sa f hfl p0 0 100) (va_cwS 3 hts gX8_checkHours_X8_checkRange rfl rfl rfl (by decide +kernel) ⟨Nat.le_of_ble_eq_true rfl, Nat.le_of_ble_eq_true rfl⟩) rfl hl.1 rfl (Nat.le_of_ble_eq_true rfl) dX8_checkHours_4 ⟨Nat.le_of_ble_eq_true rfl, Nat.le_of_ble_eq_true rfl⟩ (fun E h => ⟨h.1, fun z => h.2 z.1⟩) (Nat.le_of_ble_eq_true rfl) (Nat.le_of_ble_eq_true rfl) (fun f2 H locs hp3 hw => ?_)
  obtain ⟨hin1, hp3b⟩ := hp3
  rw [hp3b] at hw
  refine lv_iload_n hx hb dX8_checkHours_7 rfl (lv_at hl 1 rfl) ?_
  refine lv_iconst (v := 0) hx hb dX8_checkHours_8 (by decide) ?_
  refine lv_bipush (v := 100) hx hb dX8_checkHours_9 (by decide) ?_
  refine fw_tSv hx hb hml hown hts hE hw htab hlocks [.int p1, .int 0, .int 100] [] (c_X8_checkRange l D A y sa f hfl p1 0 100) (va_cwS 3 hts gX8_checkHours_X8_checkRange rfl rfl rfl (by decide +kernel) ⟨Nat.le_of_ble_eq_true rfl, Nat.le_of_ble_eq_true rfl⟩) rfl hl.1 rfl (Nat.le_of_ble_eq_true rfl) dX8_checkHours_11 ⟨Nat.le_of_ble_eq_true rfl, Nat.le_of_ble_eq_true rfl⟩ (fun E h => ⟨h.1, fun z => h.2 z.2⟩) (Nat.le_of_ble_eq_true rfl) (Nat.le_of_ble_eq_true rfl) (fun f5 H locs hp6 hw => ?_)
  obtain ⟨hin2, hp6b⟩ := hp6
  rw [hp6b] at hw
  exact vx_ret (fw_vret hx hb hr hlocks hw (Nat.le_of_ble_eq_true rfl) (Nat.le_of_ble_eq_true rfl) dX8_checkHours_14 (⟨⟨hin1, hin2⟩, rfl⟩))

theorem iX8_workerOf_8 : ∀ w ∈ wsX80, w ∈ wsX8_workerOf := by decide +kernel
set_option maxHeartbeats 4000000 in
set_option maxRecDepth 100000 in
/-- workerOf -/
theorem c_X8_workerOf (l : Launch) (D : va_G) (A : Nat → Prop) (y : Nat → ClassId) (sa : Nat → Nat) (f : fw_F) (hfl : l.stackTraces = false) (α : Nat → Nat → Nat → Nat) (κ : cS) (nw no nt wk : Nat) (p0 : Int32) (hn8 : nw ≤ 8) (hR : Rc y nw no nt wk κ α f) : vx_Met l yX8_workerOf wsX8_workerOf ({ frames := 6, cells := 1, slots := 6, locals := 88 } : Room) (cPc D A y sa f [.ref (α 0 0 0), .int p0]) (cQq D A (fun r f1 => ∃ w, w < nw ∧ p0 = nI w ∧ r = some (α 3 w 0) ∧ f1 = f)) (cX D A f (fun E => E = nIOB ∧ ¬ inr p0 0 (nI nw - 1))) 1 6 A := by
  refine fw_xmet (by decide) rfl [.ref (α 0 0 0), .int p0] (Nat.le_of_ble_eq_true rfl) ?_
  intro p e s m args below meth c ls I htab hE hw hl
  obtain ⟨hx, hb, hr, hts, hown, hlocks, hml⟩ := I
  have hown : s.vm.findClass RX8 = some m.cls := hown
  have hl : lv_has ls 3 [(0, .ref (α 0 0 0)), (1, .int p0)] := hl
  refine lv_iload_n hx hb dX8_workerOf_0 rfl (lv_at hl 1 rfl) ?_
  refine lv_if_lt (tgt := 22) hx hb dX8_workerOf_1 (by decide) (fun c_1 => ?_) (fun c_1 => ?_)
  · refine lv_null hx hb dX8_workerOf_22 ?_
    refine lv_astore_nN (lv' := [(2, .null), (0, .ref (α 0 0 0)), (1, .int p0)]) hx hb dX8_workerOf_23 rfl hl (by decide) rfl (fun ls hl => ?_)
    refine lv_aload_nN hx hb dX8_workerOf_24 rfl (lv_at hl 0 rfl) ?_
    refine lv_ifnonnullN hx hb dX8_workerOf_25 ?_
    exact fw_throw (ic := 129) (ik := 125) (is := 202) (cls := nIOB) (text := "no such worker") hx hb hfl hts hown hE hw htab hlocks thIOB (fun w h => List.mem_cons_of_mem _ (List.mem_append_right _ h)) (by decide +kernel) (by decide +kernel) (by decide +kernel) (hl.1.trans hml.symm) dX8_workerOf_28 dX8_workerOf_31 dX8_workerOf_32 dX8_workerOf_34 dX8_workerOf_37 (Nat.le_of_ble_eq_true rfl) (Nat.le_of_ble_eq_true rfl) (Nat.le_of_ble_eq_true rfl) (Nat.le_of_ble_eq_true rfl) (⟨rfl, fun z => absurd c_1 (Int32.not_lt.mpr z.1)⟩) (Nat.le_of_ble_eq_true rfl) (Nat.le_of_ble_eq_true rfl)
  · refine lv_iload_n hx hb dX8_workerOf_4 rfl (lv_at hl 1 rfl) ?_
    refine lv_aload_n hx hb dX8_workerOf_5 rfl (lv_at hl 0 rfl) ?_
    refine fw_get hx hb hts hown hE.1.1 hw (ci := 8) (fs := [.ref (α 0 0 1), .ref (α 0 0 2), .ref (α 0 0 3), .ref (α 0 0 4), .ref (α 0 0 5), .int (nI nw), .int (nI no), .int (nI nt), .int (κ 0 0 0), .int (nI wk)]) (v := .ref (α 0 0 3)) hR.x iX8_workerOf_8 rfl 2 (by decide) rfl (by decide +kernel) dX8_workerOf_6 ?_
    refine fw_alen hx hb hE.1.1 hw hR.x3 8 rfl (v := 8) rfl dX8_workerOf_9 ?_
    refine lv_icmp_ge (tgt := 22) hx hb dX8_workerOf_10 (by decide) (fun c_2 => ?_) (fun c_2 => ?_)
    · refine lv_null hx hb dX8_workerOf_22 ?_
      refine lv_astore_nN (lv' := [(2, .null), (0, .ref (α 0 0 0)), (1, .int p0)]) hx hb dX8_workerOf_23 rfl hl (by decide) rfl (fun ls hl => ?_)
      refine lv_aload_nN hx hb dX8_workerOf_24 rfl (lv_at hl 0 rfl) ?_
      refine lv_ifnonnullN hx hb dX8_workerOf_25 ?_
      exact fw_throw (ic := 129) (ik := 125) (is := 202) (cls := nIOB) (text := "no such worker") hx hb hfl hts hown hE hw htab hlocks thIOB (fun w h => List.mem_cons_of_mem _ (List.mem_append_right _ h)) (by decide +kernel) (by decide +kernel) (by decide +kernel) (hl.1.trans hml.symm) dX8_workerOf_28 dX8_workerOf_31 dX8_workerOf_32 dX8_workerOf_34 dX8_workerOf_37 (Nat.le_of_ble_eq_true rfl) (Nat.le_of_ble_eq_true rfl) (Nat.le_of_ble_eq_true rfl) (Nat.le_of_ble_eq_true rfl) (⟨rfl, fun z => by obtain ⟨j, h1, rfl⟩ := inr_w (by omega) z; exact absurd c_2 (nI_ge (b := 8) (by omega) (by decide))⟩) (Nat.le_of_ble_eq_true rfl) (Nat.le_of_ble_eq_true rfl)
    · refine lv_aload_n hx hb dX8_workerOf_13 rfl (lv_at hl 0 rfl) ?_
      refine fw_get hx hb hts hown hE.1.1 hw (ci := 8) (fs := [.ref (α 0 0 1), .ref (α 0 0 2), .ref (α 0 0 3), .ref (α 0 0 4), .ref (α 0 0 5), .int (nI nw), .int (nI no), .int (nI nt), .int (κ 0 0 0), .int (nI wk)]) (v := .ref (α 0 0 3)) hR.x iX8_workerOf_8 rfl 2 (by decide) rfl (by decide +kernel) dX8_workerOf_14 ?_
      refine lv_iload_n hx hb dX8_workerOf_17 rfl (lv_at hl 1 rfl) ?_
      obtain ⟨j, hj8, rfl⟩ := ix_of (n := 8) (by decide) c_1 c_2
      refine fw_aald hx hb hE.1.1 hw (g := (fun e => if e < nw then some (α 3 e 0) else none)) hR.x3 8 rfl (vp_in_nI hj8 (by decide)) dX8_workerOf_18 ?_
      rw [nI_clamp (n := j) (by omega)]
      rcases Nat.lt_or_ge j nw with hj | hj
      · rw [if_pos hj]
        refine lv_goto (tgt := 23) hx hb dX8_workerOf_19 (by decide) ?_
        refine lv_astore_n (lv' := [(2, .ref (α 3 j 0)), (0, .ref (α 0 0 0)), (1, .int (nI j))]) hx hb dX8_workerOf_23 rfl hl (by decide) rfl (fun ls hl => ?_)
        refine lv_aload_n hx hb dX8_workerOf_24 rfl (lv_at hl 0 rfl) ?_
        refine lv_ifnonnull (tgt := 38) hx hb dX8_workerOf_25 (by decide) ?_
        refine lv_aload_n hx hb dX8_workerOf_38 rfl (lv_at hl 0 rfl) ?_
        exact vx_ret (fw_qret (r := some (α 3 j 0)) hx hb hr hlocks hw (Nat.le_of_ble_eq_true rfl) (Nat.le_of_ble_eq_true rfl) dX8_workerOf_39 (⟨j, hj, rfl, rfl, rfl⟩))
      · rw [if_neg (Nat.not_lt.mpr hj)]
        refine lv_goto (tgt := 23) hx hb dX8_workerOf_19 (by decide) ?_
        refine lv_astore_nN (lv' := [(2, .null), (0, .ref (α 0 0 0)), (1, .int (nI j))]) hx hb dX8_workerOf_23 rfl hl (by decide) rfl (fun ls hl => ?_)
        refine lv_aload_nN hx hb dX8_workerOf_24 rfl (lv_at hl 0 rfl) ?_
        refine lv_ifnonnullN hx hb dX8_workerOf_25 ?_
        exact fw_throw (ic := 129) (ik := 125) (is := 202) (cls := nIOB) (text := "no such worker") hx hb hfl hts hown hE hw htab hlocks thIOB (fun w h => List.mem_cons_of_mem _ (List.mem_append_right _ h)) (by decide +kernel) (by decide +kernel) (by decide +kernel) (hl.1.trans hml.symm) dX8_workerOf_28 dX8_workerOf_31 dX8_workerOf_32 dX8_workerOf_34 dX8_workerOf_37 (Nat.le_of_ble_eq_true rfl) (Nat.le_of_ble_eq_true rfl) (Nat.le_of_ble_eq_true rfl) (Nat.le_of_ble_eq_true rfl) (⟨rfl, fun z => by obtain ⟨j2, h1, h2⟩ := inr_w (by omega) z; have := nI_inj2 h2 (by omega) (by omega); omega⟩) (Nat.le_of_ble_eq_true rfl) (Nat.le_of_ble_eq_true rfl)

theorem iX8_potOf_8 : ∀ w ∈ wsX80, w ∈ wsX8_potOf := by decide +kernel
set_option maxHeartbeats 4000000 in
set_option maxRecDepth 100000 in
/-- potOf -/
theorem c_X8_potOf (l : Launch) (D : va_G) (A : Nat → Prop) (y : Nat → ClassId) (sa : Nat → Nat) (f : fw_F) (hfl : l.stackTraces = false) (α : Nat → Nat → Nat → Nat) (κ : cS) (nw no nt wk : Nat) (p0 : Int32) (hR : Rc y nw no nt wk κ α f) : vx_Met l yX8_potOf wsX8_potOf ({ frames := 6, cells := 1, slots := 6, locals := 88 } : Room) (cPc D A y sa f [.ref (α 0 0 0), .int p0]) (cQq D A (fun r f1 => ∃ e, e < 3 ∧ p0 = nI e ∧ r = some (α 1 e 0) ∧ f1 = f)) (cX D A f (fun E => E = nIOB ∧ ¬ inr p0 0 2)) 1 6 A := by
  refine fw_xmet (by decide) rfl [.ref (α 0 0 0), .int p0] (Nat.le_of_ble_eq_true rfl) ?_
  intro p e s m args below meth c ls I htab hE hw hl
  obtain ⟨hx, hb, hr, hts, hown, hlocks, hml⟩ := I
  have hown : s.vm.findClass RX8 = some m.cls := hown
  have hl : lv_has ls 3 [(0, .ref (α 0 0 0)), (1, .int p0)] := hl
  refine lv_iload_n hx hb dX8_potOf_0 rfl (lv_at hl 1 rfl) ?_
  refine lv_if_lt (tgt := 22) hx hb dX8_potOf_1 (by decide) (fun c_1 => ?_) (fun c_1 => ?_)
  · refine lv_null hx hb dX8_potOf_22 ?_
    refine lv_astore_nN (lv' := [(2, .null), (0, .ref (α 0 0 0)), (1, .int p0)]) hx hb dX8_potOf_23 rfl hl (by decide) rfl (fun ls hl => ?_)
    refine lv_aload_nN hx hb dX8_potOf_24 rfl (lv_at hl 0 rfl) ?_
    refine lv_ifnonnullN hx hb dX8_potOf_25 ?_
    exact fw_throw (ic := 129) (ik := 125) (is := 204) (cls := nIOB) (text := "no such employer") hx hb hfl hts hown hE hw htab hlocks thIOB (fun w h => List.mem_cons_of_mem _ (List.mem_append_right _ h)) (by decide +kernel) (by decide +kernel) (by decide +kernel) (hl.1.trans hml.symm) dX8_potOf_28 dX8_potOf_31 dX8_potOf_32 dX8_potOf_34 dX8_potOf_37 (Nat.le_of_ble_eq_true rfl) (Nat.le_of_ble_eq_true rfl) (Nat.le_of_ble_eq_true rfl) (Nat.le_of_ble_eq_true rfl) (⟨rfl, fun z => absurd c_1 (Int32.not_lt.mpr z.1)⟩) (Nat.le_of_ble_eq_true rfl) (Nat.le_of_ble_eq_true rfl)
  · refine lv_iload_n hx hb dX8_potOf_4 rfl (lv_at hl 1 rfl) ?_
    refine lv_aload_n hx hb dX8_potOf_5 rfl (lv_at hl 0 rfl) ?_
    refine fw_get hx hb hts hown hE.1.1 hw (ci := 8) (fs := [.ref (α 0 0 1), .ref (α 0 0 2), .ref (α 0 0 3), .ref (α 0 0 4), .ref (α 0 0 5), .int (nI nw), .int (nI no), .int (nI nt), .int (κ 0 0 0), .int (nI wk)]) (v := .ref (α 0 0 1)) hR.x iX8_potOf_8 rfl 0 (by decide) rfl (by decide +kernel) dX8_potOf_6 ?_
    refine fw_alen hx hb hE.1.1 hw hR.x1 3 rfl (v := 3) rfl dX8_potOf_9 ?_
    refine lv_icmp_ge (tgt := 22) hx hb dX8_potOf_10 (by decide) (fun c_2 => ?_) (fun c_2 => ?_)
    · refine lv_null hx hb dX8_potOf_22 ?_
      refine lv_astore_nN (lv' := [(2, .null), (0, .ref (α 0 0 0)), (1, .int p0)]) hx hb dX8_potOf_23 rfl hl (by decide) rfl (fun ls hl => ?_)
      refine lv_aload_nN hx hb dX8_potOf_24 rfl (lv_at hl 0 rfl) ?_
      refine lv_ifnonnullN hx hb dX8_potOf_25 ?_
      exact fw_throw (ic := 129) (ik := 125) (is := 204) (cls := nIOB) (text := "no such employer") hx hb hfl hts hown hE hw htab hlocks thIOB (fun w h => List.mem_cons_of_mem _ (List.mem_append_right _ h)) (by decide +kernel) (by decide +kernel) (by decide +kernel) (hl.1.trans hml.symm) dX8_potOf_28 dX8_potOf_31 dX8_potOf_32 dX8_potOf_34 dX8_potOf_37 (Nat.le_of_ble_eq_true rfl) (Nat.le_of_ble_eq_true rfl) (Nat.le_of_ble_eq_true rfl) (Nat.le_of_ble_eq_true rfl) (⟨rfl, fun z => by obtain ⟨j, h1, rfl⟩ := inr_of (n := 2) (by decide) z; exact absurd c_2 (nI_ge (b := 3) (by omega) (by decide))⟩) (Nat.le_of_ble_eq_true rfl) (Nat.le_of_ble_eq_true rfl)
    · refine lv_aload_n hx hb dX8_potOf_13 rfl (lv_at hl 0 rfl) ?_
      refine fw_get hx hb hts hown hE.1.1 hw (ci := 8) (fs := [.ref (α 0 0 1), .ref (α 0 0 2), .ref (α 0 0 3), .ref (α 0 0 4), .ref (α 0 0 5), .int (nI nw), .int (nI no), .int (nI nt), .int (κ 0 0 0), .int (nI wk)]) (v := .ref (α 0 0 1)) hR.x iX8_potOf_8 rfl 0 (by decide) rfl (by decide +kernel) dX8_potOf_14 ?_
      refine lv_iload_n hx hb dX8_potOf_17 rfl (lv_at hl 1 rfl) ?_
      obtain ⟨j, hj8, rfl⟩ := ix_of (n := 3) (by decide) c_1 c_2
      refine fw_aald hx hb hE.1.1 hw (g := (fun e => if e < 3 then some (α 1 e 0) else none)) hR.x1 3 rfl (vp_in_nI hj8 (by decide)) dX8_potOf_18 ?_
      rw [nI_clamp (n := j) (by omega)]
      rcases Nat.lt_or_ge j 3 with hj | hj
      · rw [if_pos hj]
        refine lv_goto (tgt := 23) hx hb dX8_potOf_19 (by decide) ?_
        refine lv_astore_n (lv' := [(2, .ref (α 1 j 0)), (0, .ref (α 0 0 0)), (1, .int (nI j))]) hx hb dX8_potOf_23 rfl hl (by decide) rfl (fun ls hl => ?_)
        refine lv_aload_n hx hb dX8_potOf_24 rfl (lv_at hl 0 rfl) ?_
        refine lv_ifnonnull (tgt := 38) hx hb dX8_potOf_25 (by decide) ?_
        refine lv_aload_n hx hb dX8_potOf_38 rfl (lv_at hl 0 rfl) ?_
        exact vx_ret (fw_qret (r := some (α 1 j 0)) hx hb hr hlocks hw (Nat.le_of_ble_eq_true rfl) (Nat.le_of_ble_eq_true rfl) dX8_potOf_39 (⟨j, hj, rfl, rfl, rfl⟩))
      · rw [if_neg (Nat.not_lt.mpr hj)]
        refine lv_goto (tgt := 23) hx hb dX8_potOf_19 (by decide) ?_
        refine lv_astore_nN (lv' := [(2, .null), (0, .ref (α 0 0 0)), (1, .int (nI j))]) hx hb dX8_potOf_23 rfl hl (by decide) rfl (fun ls hl => ?_)
        refine lv_aload_nN hx hb dX8_potOf_24 rfl (lv_at hl 0 rfl) ?_
        refine lv_ifnonnullN hx hb dX8_potOf_25 ?_
        exact fw_throw (ic := 129) (ik := 125) (is := 204) (cls := nIOB) (text := "no such employer") hx hb hfl hts hown hE hw htab hlocks thIOB (fun w h => List.mem_cons_of_mem _ (List.mem_append_right _ h)) (by decide +kernel) (by decide +kernel) (by decide +kernel) (hl.1.trans hml.symm) dX8_potOf_28 dX8_potOf_31 dX8_potOf_32 dX8_potOf_34 dX8_potOf_37 (Nat.le_of_ble_eq_true rfl) (Nat.le_of_ble_eq_true rfl) (Nat.le_of_ble_eq_true rfl) (Nat.le_of_ble_eq_true rfl) (absurd hj8 (by omega)) (Nat.le_of_ble_eq_true rfl) (Nat.le_of_ble_eq_true rfl)

theorem iX8_ratesOrNull_8 : ∀ w ∈ wsX80, w ∈ wsX8_ratesOrNull := by decide +kernel
set_option maxHeartbeats 4000000 in
set_option maxRecDepth 100000 in
/-- ratesOrNull -/
theorem c_X8_ratesOrNull (l : Launch) (D : va_G) (A : Nat → Prop) (y : Nat → ClassId) (sa : Nat → Nat) (f : fw_F) (α : Nat → Nat → Nat → Nat) (κ : cS) (nw no nt wk : Nat) (p0 : Int32) (hR : Rc y nw no nt wk κ α f) : Met l yX8_ratesOrNull wsX8_ratesOrNull ({ frames := 0, cells := 0, slots := 0, locals := 0 } : Room) (cPc D A y sa f [.ref (α 0 0 0), .int p0]) (cQq D A (fun r f1 => (∃ q, q < 3 ∧ p0 = nI q ∧ r = some (α 2 q 0) ∧ f1 = f) ∨ (¬ inr p0 0 2 ∧ r = none ∧ f1 = f))) 0 0 A := by
  refine fw_met (by decide) rfl [.ref (α 0 0 0), .int p0] (Nat.le_of_ble_eq_true rfl) ?_
  intro p e s m args below meth c ls I hin hE hw hl
  obtain ⟨hx, hb, hr, hts, hown, hlocks, hml⟩ := I
  have hown : s.vm.findClass RX8 = some m.cls := hown
  have hl : lv_has ls 2 [(0, .ref (α 0 0 0)), (1, .int p0)] := hl
  refine lv_iload_n hx hb dX8_ratesOrNull_0 rfl (lv_at hl 1 rfl) ?_
  refine lv_if_lt (tgt := 22) hx hb dX8_ratesOrNull_1 (by decide) (fun c_1 => ?_) (fun c_1 => ?_)
  · refine lv_null hx hb dX8_ratesOrNull_22 ?_
    exact fw_qret (r := none) hx hb hr hlocks hw (Nat.le_of_ble_eq_true rfl) (Nat.le_of_ble_eq_true rfl) dX8_ratesOrNull_23 (Or.inr ⟨(⟨trivial, fun z => absurd c_1 (Int32.not_lt.mpr z.1)⟩ : True ∧ ¬ inr p0 0 2).2, rfl, rfl⟩)
  · refine lv_iload_n hx hb dX8_ratesOrNull_4 rfl (lv_at hl 1 rfl) ?_
    refine lv_aload_n hx hb dX8_ratesOrNull_5 rfl (lv_at hl 0 rfl) ?_
    refine fw_get hx hb hts hown hE.1.1 hw (ci := 8) (fs := [.ref (α 0 0 1), .ref (α 0 0 2), .ref (α 0 0 3), .ref (α 0 0 4), .ref (α 0 0 5), .int (nI nw), .int (nI no), .int (nI nt), .int (κ 0 0 0), .int (nI wk)]) (v := .ref (α 0 0 2)) hR.x iX8_ratesOrNull_8 rfl 1 (by decide) rfl (by decide +kernel) dX8_ratesOrNull_6 ?_
    refine fw_alen hx hb hE.1.1 hw hR.x2 4 rfl (v := 3) rfl dX8_ratesOrNull_9 ?_
    refine lv_icmp_ge (tgt := 22) hx hb dX8_ratesOrNull_10 (by decide) (fun c_2 => ?_) (fun c_2 => ?_)
    · refine lv_null hx hb dX8_ratesOrNull_22 ?_
      exact fw_qret (r := none) hx hb hr hlocks hw (Nat.le_of_ble_eq_true rfl) (Nat.le_of_ble_eq_true rfl) dX8_ratesOrNull_23 (Or.inr ⟨(⟨trivial, fun z => by obtain ⟨j, h1, rfl⟩ := inr_of (n := 2) (by decide) z; exact absurd c_2 (nI_ge (b := 3) (by omega) (by decide))⟩ : True ∧ ¬ inr p0 0 2).2, rfl, rfl⟩)
    · refine lv_aload_n hx hb dX8_ratesOrNull_13 rfl (lv_at hl 0 rfl) ?_
      refine fw_get hx hb hts hown hE.1.1 hw (ci := 8) (fs := [.ref (α 0 0 1), .ref (α 0 0 2), .ref (α 0 0 3), .ref (α 0 0 4), .ref (α 0 0 5), .int (nI nw), .int (nI no), .int (nI nt), .int (κ 0 0 0), .int (nI wk)]) (v := .ref (α 0 0 2)) hR.x iX8_ratesOrNull_8 rfl 1 (by decide) rfl (by decide +kernel) dX8_ratesOrNull_14 ?_
      refine lv_iload_n hx hb dX8_ratesOrNull_17 rfl (lv_at hl 1 rfl) ?_
      obtain ⟨j, hj8, rfl⟩ := ix_of (n := 3) (by decide) c_1 c_2
      refine fw_aald hx hb hE.1.1 hw (g := (fun e => if e < 3 then some (α 2 e 0) else none)) hR.x2 4 rfl (vp_in_nI hj8 (by decide)) dX8_ratesOrNull_18 ?_
      rw [nI_clamp (n := j) (by omega)]
      rcases Nat.lt_or_ge j 3 with hj | hj
      · rw [if_pos hj]
        refine lv_goto (tgt := 23) hx hb dX8_ratesOrNull_19 (by decide) ?_
        exact fw_qret (r := some (α 2 j 0)) hx hb hr hlocks hw (Nat.le_of_ble_eq_true rfl) (Nat.le_of_ble_eq_true rfl) dX8_ratesOrNull_23 (Or.inl ⟨j, hj, rfl, rfl, rfl⟩)
      · rw [if_neg (Nat.not_lt.mpr hj)]
        refine lv_goto (tgt := 23) hx hb dX8_ratesOrNull_19 (by decide) ?_
        exact fw_qret (r := none) hx hb hr hlocks hw (Nat.le_of_ble_eq_true rfl) (Nat.le_of_ble_eq_true rfl) dX8_ratesOrNull_23 (absurd hj8 (by omega))

set_option maxHeartbeats 4000000 in
set_option maxRecDepth 100000 in
/-- ratesOf -/
theorem c_X8_ratesOf (l : Launch) (D : va_G) (A : Nat → Prop) (y : Nat → ClassId) (sa : Nat → Nat) (f : fw_F) (hfl : l.stackTraces = false) (α : Nat → Nat → Nat → Nat) (κ : cS) (nw no nt wk : Nat) (p0 : Int32) (hR : Rc y nw no nt wk κ α f) : vx_Met l yX8_ratesOf wsX8_ratesOf ({ frames := 6, cells := 1, slots := 6, locals := 88 } : Room) (cPc D A y sa f [.ref (α 0 0 0), .int p0]) (cQq D A (fun r f1 => ∃ q, q < 3 ∧ p0 = nI q ∧ r = some (α 2 q 0) ∧ f1 = f)) (cX D A f (fun E => E = nIOB ∧ ¬ inr p0 0 2)) 1 6 A := by
  refine fw_xmet (by decide) rfl [.ref (α 0 0 0), .int p0] (Nat.le_of_ble_eq_true rfl) ?_
  intro p e s m args below meth c ls I htab hE hw hl
  obtain ⟨hx, hb, hr, hts, hown, hlocks, hml⟩ := I
  have hown : s.vm.findClass RX8 = some m.cls := hown
  have hl : lv_has ls 3 [(0, .ref (α 0 0 0)), (1, .int p0)] := hl
  refine lv_aload_n hx hb dX8_ratesOf_0 rfl (lv_at hl 0 rfl) ?_
  refine lv_iload_n hx hb dX8_ratesOf_1 rfl (lv_at hl 1 rfl) ?_
  refine fw_callVq hx hb hml hown hts hE hw [.int p0] [] (c_X8_ratesOrNull l D A y sa f α κ nw no nt wk p0 hR) (cwV 1 hts gX8_ratesOf_X8_ratesOrNull rfl rfl rfl (by decide +kernel) ⟨Nat.le_of_ble_eq_true rfl, Nat.le_of_ble_eq_true rfl⟩) (ci := 8) rfl rfl hR.x rfl hl.1 rfl (Nat.le_of_ble_eq_true rfl) dX8_ratesOf_2 ⟨Nat.le_of_ble_eq_true rfl, Nat.le_of_ble_eq_true rfl⟩ (fun r1 f2 H locs hp3 hw => ?_)
  rcases hp3 with ⟨j, hj, rfl, hp3a, hp3b⟩ | ⟨hne, hp3a, hp3b⟩
  · rw [hp3b] at hw
    rw [hp3a]
    refine lv_astore_n (lv' := [(2, .ref (α 2 j 0)), (0, .ref (α 0 0 0)), (1, .int (nI j))]) hx hb dX8_ratesOf_5 rfl hl (by decide) rfl (fun ls hl => ?_)
    refine lv_aload_n hx hb dX8_ratesOf_6 rfl (lv_at hl 0 rfl) ?_
    refine lv_ifnonnull (tgt := 20) hx hb dX8_ratesOf_7 (by decide) ?_
    refine lv_aload_n hx hb dX8_ratesOf_20 rfl (lv_at hl 0 rfl) ?_
    exact vx_ret (fw_qret (r := some (α 2 j 0)) hx hb hr hlocks hw (Nat.le_of_ble_eq_true rfl) (Nat.le_of_ble_eq_true rfl) dX8_ratesOf_21 (⟨j, hj, rfl, rfl, rfl⟩))
  · rw [hp3b] at hw
    rw [hp3a]
    refine lv_astore_nN (lv' := [(2, .null), (0, .ref (α 0 0 0)), (1, .int p0)]) hx hb dX8_ratesOf_5 rfl hl (by decide) rfl (fun ls hl => ?_)
    refine lv_aload_nN hx hb dX8_ratesOf_6 rfl (lv_at hl 0 rfl) ?_
    refine lv_ifnonnullN hx hb dX8_ratesOf_7 ?_
    exact fw_throw (ic := 129) (ik := 125) (is := 209) (cls := nIOB) (text := "no such rank") hx hb hfl hts hown hE hw htab hlocks thIOB (fun w h => List.mem_cons_of_mem _ (List.mem_append_right _ h)) (by decide +kernel) (by decide +kernel) (by decide +kernel) (hl.1.trans hml.symm) dX8_ratesOf_10 dX8_ratesOf_13 dX8_ratesOf_14 dX8_ratesOf_16 dX8_ratesOf_19 (Nat.le_of_ble_eq_true rfl) (Nat.le_of_ble_eq_true rfl) (Nat.le_of_ble_eq_true rfl) (Nat.le_of_ble_eq_true rfl) (⟨rfl, hne⟩) (Nat.le_of_ble_eq_true rfl) (Nat.le_of_ble_eq_true rfl)
