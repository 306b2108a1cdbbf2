theorem iX5_part_5 : ∀ w ∈ wsX50, w ∈ wsX5_part := by decide +kernel
set_option maxHeartbeats 4000000 in
set_option maxRecDepth 100000 in
/-- Slip.part -/
theorem c_X5_part (l : Launch) (D : va_G) (A : Nat → Prop) (y : Nat → ClassId) (sa : Nat → Nat) (f : fw_F) (h0 k : Nat) (cc0 : Nat → Int32) (hk4 : k < 4) (hf : f h0 = some (.inr (5, [.int (cc0 0), .int (cc0 1), .int (cc0 2), .int (cc0 3)]))) : Met l yX5_part wsX5_part ({ frames := 0, cells := 0, slots := 0, locals := 0 } : Room) (cPc D A y sa f [.ref h0, .int (nI k)]) (cQi D A (fun r f1 => r = cc0 k ∧ f1 = f)) 0 0 A := by
  refine fw_met (by decide) rfl [.ref h0, .int (nI k)] (Nat.le_of_ble_eq_true rfl) ?_
  intro p e s m args below meth c ls I hin hE hw hl
  obtain ⟨hx, hb, hr, hts, hown, hlocks, hml⟩ := I
  have hown : s.vm.findClass RX5 = some m.cls := hown
  have hl : lv_has ls 2 [(0, .ref h0), (1, .int (nI k))] := hl
  refine lv_iload_n hx hb dX5_part_0 rfl (lv_at hl 1 rfl) ?_
  rcases (show k = 0 ∨ k = 1 ∨ k = 2 ∨ k = 3 by omega) with rfl | rfl | rfl | rfl
  · refine lv_tableIn (tgt := 32) hx hb dX5_part_1 (by decide) (by decide) (off := 31) (by decide) (by decide) ?_
    refine lv_aload_n hx hb dX5_part_32 rfl (lv_at hl 0 rfl) ?_
    refine fw_get hx hb hts hown hE.1.1 hw (ci := 5) (fs := [.int (cc0 0), .int (cc0 1), .int (cc0 2), .int (cc0 3)]) (v := .int (cc0 0)) hf iX5_part_5 rfl 0 (by decide) rfl (by decide +kernel) dX5_part_33 ?_
    exact fw_iret hx hb hr hlocks hw (Nat.le_of_ble_eq_true rfl) (Nat.le_of_ble_eq_true rfl) dX5_part_36 (⟨rfl, rfl⟩)
  · refine lv_tableIn (tgt := 37) hx hb dX5_part_1 (by decide) (by decide) (off := 36) (by decide) (by decide) ?_
    refine lv_aload_n hx hb dX5_part_37 rfl (lv_at hl 0 rfl) ?_
    refine fw_get hx hb hts hown hE.1.1 hw (ci := 5) (fs := [.int (cc0 0), .int (cc0 1), .int (cc0 2), .int (cc0 3)]) (v := .int (cc0 1)) hf iX5_part_5 rfl 1 (by decide) rfl (by decide +kernel) dX5_part_38 ?_
    exact fw_iret hx hb hr hlocks hw (Nat.le_of_ble_eq_true rfl) (Nat.le_of_ble_eq_true rfl) dX5_part_41 (⟨rfl, rfl⟩)
  · refine lv_tableIn (tgt := 42) hx hb dX5_part_1 (by decide) (by decide) (off := 41) (by decide) (by decide) ?_
    refine lv_aload_n hx hb dX5_part_42 rfl (lv_at hl 0 rfl) ?_
    refine fw_get hx hb hts hown hE.1.1 hw (ci := 5) (fs := [.int (cc0 0), .int (cc0 1), .int (cc0 2), .int (cc0 3)]) (v := .int (cc0 2)) hf iX5_part_5 rfl 2 (by decide) rfl (by decide +kernel) dX5_part_43 ?_
    exact fw_iret hx hb hr hlocks hw (Nat.le_of_ble_eq_true rfl) (Nat.le_of_ble_eq_true rfl) dX5_part_46 (⟨rfl, rfl⟩)
  · refine lv_tableIn (tgt := 47) hx hb dX5_part_1 (by decide) (by decide) (off := 46) (by decide) (by decide) ?_
    refine lv_aload_n hx hb dX5_part_47 rfl (lv_at hl 0 rfl) ?_
    refine fw_get hx hb hts hown hE.1.1 hw (ci := 5) (fs := [.int (cc0 0), .int (cc0 1), .int (cc0 2), .int (cc0 3)]) (v := .int (cc0 3)) hf iX5_part_5 rfl 3 (by decide) rfl (by decide +kernel) dX5_part_48 ?_
    exact fw_iret hx hb hr hlocks hw (Nat.le_of_ble_eq_true rfl) (Nat.le_of_ble_eq_true rfl) dX5_part_51 (⟨rfl, rfl⟩)

theorem iX7_sheet_7 : ∀ w ∈ wsX70, w ∈ wsX7_sheet := by decide +kernel
set_option maxHeartbeats 4000000 in
set_option maxRecDepth 100000 in
/-- Worker.sheet -/
theorem c_X7_sheet (l : Launch) (D : va_G) (A : Nat → Prop) (y : Nat → ClassId) (sa : Nat → Nat) (f : fw_F) (h0 pv rv shv slv : Nat) (kv cv tv ev : Int32) (p0 : Int32) (S : Nat → Option Nat) (hf : f h0 = some (.inr (7, [.ref pv, .ref rv, .int kv, .int cv, .int tv, .int ev, .ref shv, .ref slv]))) (hsh : f shv = some (.inl (y 5, 20, .inr (.inr (.inr (.inr S)))))) : Met l yX7_sheet wsX7_sheet ({ frames := 0, cells := 0, slots := 0, locals := 0 } : Room) (cPc D A y sa f [.ref h0, .int p0]) (cQq D A (fun r f1 => r = (if (0 : Int32) ≤ p0 ∧ p0 < 20 then S p0.toNatClampNeg else none) ∧ f1 = f)) 0 0 A := by
  refine fw_met (by decide) rfl [.ref h0, .int p0] (Nat.le_of_ble_eq_true rfl) ?_
  intro p e s m args below meth c ls I hin hE hw hl
  obtain ⟨hx, hb, hr, hts, hown, hlocks, hml⟩ := I
  have hown : s.vm.findClass RX7 = some m.cls := hown
  have hl : lv_has ls 2 [(0, .ref h0), (1, .int p0)] := hl
  refine lv_iload_n hx hb dX7_sheet_0 rfl (lv_at hl 1 rfl) ?_
  refine lv_if_lt (tgt := 22) hx hb dX7_sheet_1 (by decide) (fun c_1 => ?_) (fun c_1 => ?_)
  · refine lv_null hx hb dX7_sheet_22 ?_
    exact fw_qret (r := none) hx hb hr hlocks hw (Nat.le_of_ble_eq_true rfl) (Nat.le_of_ble_eq_true rfl) dX7_sheet_23 (⟨(if_neg (fun z => absurd c_1 (Int32.not_lt.mpr z.1))).symm, rfl⟩)
  · refine lv_iload_n hx hb dX7_sheet_4 rfl (lv_at hl 1 rfl) ?_
    refine lv_aload_n hx hb dX7_sheet_5 rfl (lv_at hl 0 rfl) ?_
    refine fw_get hx hb hts hown hE.1.1 hw (ci := 7) (fs := [.ref pv, .ref rv, .int kv, .int cv, .int tv, .int ev, .ref shv, .ref slv]) (v := .ref shv) hf iX7_sheet_7 rfl 6 (by decide) rfl (by decide +kernel) dX7_sheet_6 ?_
    refine fw_alen hx hb hE.1.1 hw hsh 5 rfl (v := 20) rfl dX7_sheet_9 ?_
    refine lv_icmp_ge (tgt := 22) hx hb dX7_sheet_10 (by decide) (fun c_2 => ?_) (fun c_2 => ?_)
    · refine lv_null hx hb dX7_sheet_22 ?_
      exact fw_qret (r := none) hx hb hr hlocks hw (Nat.le_of_ble_eq_true rfl) (Nat.le_of_ble_eq_true rfl) dX7_sheet_23 (⟨(if_neg (fun z => absurd c_2 (Int32.not_le.mpr z.2))).symm, rfl⟩)
    · refine lv_aload_n hx hb dX7_sheet_13 rfl (lv_at hl 0 rfl) ?_
      refine fw_get hx hb hts hown hE.1.1 hw (ci := 7) (fs := [.ref pv, .ref rv, .int kv, .int cv, .int tv, .int ev, .ref shv, .ref slv]) (v := .ref shv) hf iX7_sheet_7 rfl 6 (by decide) rfl (by decide +kernel) dX7_sheet_14 ?_
      refine lv_iload_n hx hb dX7_sheet_17 rfl (lv_at hl 1 rfl) ?_
      refine fw_aald hx hb hE.1.1 hw (g := S) hsh 5 rfl (fw_inB (N := 20) (by decide) c_1 c_2) dX7_sheet_18 ?_
      refine lv_goto (tgt := 23) hx hb dX7_sheet_19 (by decide) ?_
      exact fw_qret hx hb hr hlocks hw (Nat.le_of_ble_eq_true rfl) (Nat.le_of_ble_eq_true rfl) dX7_sheet_23 (⟨(if_pos ⟨Int32.not_lt.mp c_1, Int32.not_le.mp c_2⟩).symm, rfl⟩)

theorem iX7_keepSlip_7 : ∀ w ∈ wsX70, w ∈ wsX7_keepSlip := by decide +kernel
set_option maxHeartbeats 4000000 in
set_option maxRecDepth 100000 in
/-- Worker.keepSlip -/
theorem c_X7_keepSlip (l : Launch) (D : va_G) (A : Nat → Prop) (y : Nat → ClassId) (sa : Nat → Nat) (f : fw_F) (h0 pv rv shv slv : Nat) (kv cv tv ev : Int32) (w q : Nat) (g0 g1 g2 g3 : Int32) (S : Nat → Option Nat) (hw31 : w < 31) (hf : f h0 = some (.inr (7, [.ref pv, .ref rv, .int kv, .int cv, .int tv, .int ev, .ref shv, .ref slv]))) (hsl : f slv = some (.inl (y 6, 31, .inr (.inr (.inr (.inr S)))))) (hq : f q = some (.inr (5, [.int g0, .int g1, .int g2, .int g3]))) : Met l yX7_keepSlip wsX7_keepSlip ({ frames := 0, cells := 0, slots := 0, locals := 0 } : Room) (cPc D A y sa f [.ref h0, .int (nI w), .ref q]) (cQv D A (fun f1 => f1 = fw_up f slv (.inl (y 6, 31, .inr (.inr (.inr (.inr (va_up S w (some q))))))))) 0 0 A := by
  refine fw_met (by decide) rfl [.ref h0, .int (nI w), .ref q] (Nat.le_of_ble_eq_true rfl) ?_
  intro p e s m args below meth c ls I hin hE hw hl
  obtain ⟨hx, hb, hr, hts, hown, hlocks, hml⟩ := I
  have hown : s.vm.findClass RX7 = some m.cls := hown
  have hl : lv_has ls 3 [(0, .ref h0), (1, .int (nI w)), (2, .ref q)] := hl
  refine lv_iload_n hx hb dX7_keepSlip_0 rfl (lv_at hl 1 rfl) ?_
  refine lv_if_lt (tgt := 20) hx hb dX7_keepSlip_1 (by decide) (fun c_1 => ?_) (fun c_1 => ?_)
  · exact absurd c_1 (nI_pos (by omega))
  · refine lv_iload_n hx hb dX7_keepSlip_4 rfl (lv_at hl 1 rfl) ?_
    refine lv_aload_n hx hb dX7_keepSlip_5 rfl (lv_at hl 0 rfl) ?_
    refine fw_get hx hb hts hown hE.1.1 hw (ci := 7) (fs := [.ref pv, .ref rv, .int kv, .int cv, .int tv, .int ev, .ref shv, .ref slv]) (v := .ref slv) hf iX7_keepSlip_7 rfl 7 (by decide) rfl (by decide +kernel) dX7_keepSlip_6 ?_
    refine fw_alen hx hb hE.1.1 hw hsl 6 rfl (v := 31) rfl dX7_keepSlip_9 ?_
    refine lv_icmp_ge (tgt := 20) hx hb dX7_keepSlip_10 (by decide) (fun c_2 => ?_) (fun c_2 => ?_)
    · exact absurd c_2 (nI_ge (b := 31) hw31 (by decide))
    · refine lv_aload_n hx hb dX7_keepSlip_13 rfl (lv_at hl 0 rfl) ?_
      refine fw_get hx hb hts hown hE.1.1 hw (ci := 7) (fs := [.ref pv, .ref rv, .int kv, .int cv, .int tv, .int ev, .ref shv, .ref slv]) (v := .ref slv) hf iX7_keepSlip_7 rfl 7 (by decide) rfl (by decide +kernel) dX7_keepSlip_14 ?_
      refine lv_iload_n hx hb dX7_keepSlip_17 rfl (lv_at hl 1 rfl) ?_
      refine lv_aload_n hx hb dX7_keepSlip_18 rfl (lv_at hl 2 rfl) ?_
      refine fw_aast (r := (RX5, TX5, 4)) hx hb hE.1.1 hw (g := S) hsl 6 rfl hq rfl (vp_in_nI (by omega) (by decide)) dX7_keepSlip_19 (fun H locs hw => ?_)
      rw [nI_clamp (n := w) (by omega)] at hw
      obtain ⟨f3, ef3⟩ : ∃ z, z = fw_up f slv (.inl (y 6, 31, .inr (.inr (.inr (.inr (va_up S w (some q))))))) := ⟨_, rfl⟩
      have hw : fw_S D A s.heap f3 H locs := by rw [ef3]; exact hw
      have h4 : f3 h0 = some (.inr (7, [.ref pv, .ref rv, .int kv, .int cv, .int tv, .int ev, .ref shv, .ref slv])) := by rw [ef3]; exact (fw_up_n (fw_ne2 hf hsl (by simp))).trans hf
      have h5 : f3 q = some (.inr (5, [.int g0, .int g1, .int g2, .int g3])) := by rw [ef3]; exact (fw_up_n (fw_ne2 hq hsl (by simp))).trans hq
      have h6 : f3 slv = some (.inl (y 6, 31, .inr (.inr (.inr (.inr (va_up S w (some q))))))) := by rw [ef3]; exact fw_up_s
      exact fw_vret hx hb hr hlocks hw (Nat.le_of_ble_eq_true rfl) (Nat.le_of_ble_eq_true rfl) dX7_keepSlip_20 (by rw [ef3])

theorem iX7_slipPart_7 : ∀ w ∈ wsX70, w ∈ wsX7_slipPart := by decide +kernel
set_option maxHeartbeats 4000000 in
set_option maxRecDepth 100000 in
/-- Worker.slipPart -/
theorem c_X7_slipPart (l : Launch) (D : va_G) (A : Nat → Prop) (y : Nat → ClassId) (sa : Nat → Nat) (f : fw_F) (h0 pv rv shv slv : Nat) (kv cv tv ev : Int32) (w k : Nat) (S : Nat → Option Nat) (cc0 : Nat → Int32) (hw31 : w < 31) (hk4 : k < 4) (hf : f h0 = some (.inr (7, [.ref pv, .ref rv, .int kv, .int cv, .int tv, .int ev, .ref shv, .ref slv]))) (hsl : f slv = some (.inl (y 6, 31, .inr (.inr (.inr (.inr S)))))) (hsp : ∀ q, S w = some q → f q = some (.inr (5, [.int (cc0 0), .int (cc0 1), .int (cc0 2), .int (cc0 3)]))) : Met l yX7_slipPart wsX7_slipPart ({ frames := 1, cells := 0, slots := 0, locals := 21 } : Room) (cPc D A y sa f [.ref h0, .int (nI w), .int (nI k)]) (cQi D A (fun r f1 => r = (if (S w).isSome = true then cc0 k else 0) ∧ f1 = f)) 0 0 A := by
  refine fw_met (by decide) rfl [.ref h0, .int (nI w), .int (nI k)] (Nat.le_of_ble_eq_true rfl) ?_
  intro p e s m args below meth c ls I hin hE hw hl
  obtain ⟨hx, hb, hr, hts, hown, hlocks, hml⟩ := I
  have hown : s.vm.findClass RX7 = some m.cls := hown
  have hl : lv_has ls 4 [(0, .ref h0), (1, .int (nI w)), (2, .int (nI k))] := hl
  refine lv_iload_n hx hb dX7_slipPart_0 rfl (lv_at hl 1 rfl) ?_
  refine lv_if_lt (tgt := 22) hx hb dX7_slipPart_1 (by decide) (fun c_1 => ?_) (fun c_1 => ?_)
  · exact absurd c_1 (nI_pos (by omega))
  · refine lv_iload_n hx hb dX7_slipPart_4 rfl (lv_at hl 1 rfl) ?_
    refine lv_aload_n hx hb dX7_slipPart_5 rfl (lv_at hl 0 rfl) ?_
    refine fw_get hx hb hts hown hE.1.1 hw (ci := 7) (fs := [.ref pv, .ref rv, .int kv, .int cv, .int tv, .int ev, .ref shv, .ref slv]) (v := .ref slv) hf iX7_slipPart_7 rfl 7 (by decide) rfl (by decide +kernel) dX7_slipPart_6 ?_
    refine fw_alen hx hb hE.1.1 hw hsl 6 rfl (v := 31) rfl dX7_slipPart_9 ?_
    refine lv_icmp_ge (tgt := 22) hx hb dX7_slipPart_10 (by decide) (fun c_2 => ?_) (fun c_2 => ?_)
    · exact absurd c_2 (nI_ge (b := 31) hw31 (by decide))
    · refine lv_aload_n hx hb dX7_slipPart_13 rfl (lv_at hl 0 rfl) ?_
      refine fw_get hx hb hts hown hE.1.1 hw (ci := 7) (fs := [.ref pv, .ref rv, .int kv, .int cv, .int tv, .int ev, .ref shv, .ref slv]) (v := .ref slv) hf iX7_slipPart_7 rfl 7 (by decide) rfl (by decide +kernel) dX7_slipPart_14 ?_
      refine lv_iload_n hx hb dX7_slipPart_17 rfl (lv_at hl 1 rfl) ?_
      refine fw_aald hx hb hE.1.1 hw (g := S) hsl 6 rfl (vp_in_nI (by omega) (by decide)) dX7_slipPart_18 ?_
      rw [nI_clamp (n := w) (by omega)]
      cases hSw : S w with
      | none =>
        refine lv_goto (tgt := 23) hx hb dX7_slipPart_19 (by decide) ?_
        refine lv_astore_nN (lv' := [(3, .null), (0, .ref h0), (1, .int (nI w)), (2, .int (nI k))]) hx hb dX7_slipPart_23 rfl hl (by decide) rfl (fun ls hl => ?_)
        refine lv_aload_nN hx hb dX7_slipPart_24 rfl (lv_at hl 0 rfl) ?_
        refine lv_ifnonnullN hx hb dX7_slipPart_25 ?_
        refine lv_iconst (v := 0) hx hb dX7_slipPart_28 (by decide) ?_
        refine lv_goto (tgt := 37) hx hb dX7_slipPart_29 (by decide) ?_
        exact fw_iret hx hb hr hlocks hw (Nat.le_of_ble_eq_true rfl) (Nat.le_of_ble_eq_true rfl) dX7_slipPart_37 (⟨by simp [hSw], rfl⟩)
      | some q =>
        refine lv_goto (tgt := 23) hx hb dX7_slipPart_19 (by decide) ?_
        refine lv_astore_n (lv' := [(3, .ref q), (0, .ref h0), (1, .int (nI w)), (2, .int (nI k))]) hx hb dX7_slipPart_23 rfl hl (by decide) rfl (fun ls hl => ?_)
        refine lv_aload_n hx hb dX7_slipPart_24 rfl (lv_at hl 0 rfl) ?_
        refine lv_ifnonnull (tgt := 32) hx hb dX7_slipPart_25 (by decide) ?_
        refine lv_aload_n hx hb dX7_slipPart_32 rfl (lv_at hl 0 rfl) ?_
        refine lv_iload_n hx hb dX7_slipPart_33 rfl (lv_at hl 3 rfl) ?_
        refine fw_callVi hx hb hml hown hts hE hw [.int (nI k)] [] (c_X5_part l D A y sa f q k cc0 hk4 (hsp q hSw)) (cwV 1 hts gX7_slipPart_X5_part rfl rfl rfl (by decide +kernel) ⟨Nat.le_of_ble_eq_true rfl, Nat.le_of_ble_eq_true rfl⟩) (ci := 5) rfl rfl (hsp q hSw) rfl hl.1 rfl (Nat.le_of_ble_eq_true rfl) dX7_slipPart_34 ⟨Nat.le_of_ble_eq_true rfl, Nat.le_of_ble_eq_true rfl⟩ (fun r3 f4 H locs hp5 hw => ?_)
        obtain ⟨hp5a, hp5b⟩ := hp5
        rw [hp5b] at hw
        rw [hp5a]
        exact fw_iret hx hb hr hlocks hw (Nat.le_of_ble_eq_true rfl) (Nat.le_of_ble_eq_true rfl) dX7_slipPart_37 (⟨by simp [hSw], rfl⟩)
