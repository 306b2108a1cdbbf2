theorem iX1_init_1 : ∀ w ∈ wsX10, w ∈ wsX1_init := by decide +kernel
set_option maxHeartbeats 4000000 in
set_option maxRecDepth 100000 in
/-- Pot(): empty -/
theorem c_X1_init (l : Launch) (D : va_G) (A : Nat → Prop) (y : Nat → ClassId) (sa : Nat → Nat) (f : fw_F) (h0 : Nat) (cv sv : Int32) (hf : f h0 = some (.inr (1, [.int cv, .int sv]))) : Met l yX1_init wsX1_init ({ frames := 1, cells := 0, slots := 0, locals := 20 } : Room) (cPc D A y sa f [.ref h0]) (cQv D A (fun f1 => f1 = fw_up f h0 (.inr (1, [.int 0, .int 0])))) 0 0 A := by
  refine fw_met (by decide) rfl [.ref h0] (Nat.le_of_ble_eq_true rfl) ?_
  intro p e s m args below meth c ls I hin hE hw hl
  obtain ⟨hx, hb, hr, hts, hown, hlocks, hml⟩ := I
  have hown : s.vm.findClass RX1 = some m.cls := hown
  have hl : lv_has ls 1 [(0, .ref h0)] := hl
  refine lv_aload_n hx hb dX1_init_0 rfl (lv_at hl 0 rfl) ?_
  refine W.objInit hx hb hown (hts (.methodLink RX1 1 objectInit) (by decide +kernel)) (hts (.instanceMethod objectInit) (by decide +kernel)) (hts (.code objectInit ⟨#[0xb1]⟩ 1 none) (by decide +kernel)) rfl (by rw [hml]; exact hl.1) rfl dX1_init_1 (Nat.le_of_ble_eq_true rfl) (Nat.le_of_ble_eq_true rfl) ?_
  refine W.eq (g2 := F0 m 4 ls []) rfl ?_
  refine lv_aload_n hx hb dX1_init_4 rfl (lv_at hl 0 rfl) ?_
  refine lv_iconst (v := 0) hx hb dX1_init_5 (by decide) ?_
  refine fw_put hx hb hts hown hE.1.1 hw (ci := 1) (fs := [.int cv, .int sv]) (v := .int 0) hf iX1_init_1 tyX1 tyX1_ok nmX1 rfl 0 (by decide) rfl rfl rfl (Nat.le_of_ble_eq_true rfl) (by decide +kernel) dX1_init_6 (fun H locs hw => ?_)
  obtain ⟨f1, ef1⟩ : ∃ z, z = fw_up f h0 (.inr (1, [.int 0, .int sv])) := ⟨_, rfl⟩
  have hw : fw_S D A s.heap f1 H locs := by rw [ef1]; exact hw
  have h2 : f1 h0 = some (.inr (1, [.int 0, .int sv])) := by rw [ef1]; exact fw_up_s
  refine lv_aload_n hx hb dX1_init_9 rfl (lv_at hl 0 rfl) ?_
  refine lv_iconst (v := 0) hx hb dX1_init_10 (by decide) ?_
  refine fw_put hx hb hts hown hE.1.1 hw (ci := 1) (fs := [.int 0, .int sv]) (v := .int 0) h2 iX1_init_1 tyX1 tyX1_ok nmX1 rfl 1 (by decide) rfl rfl rfl (Nat.le_of_ble_eq_true rfl) (by decide +kernel) dX1_init_11 (fun H locs hw => ?_)
  obtain ⟨f3, ef3⟩ : ∃ z, z = fw_up f1 h0 (.inr (1, [.int 0, .int 0])) := ⟨_, rfl⟩
  have hw : fw_S D A s.heap f3 H locs := by rw [ef3]; exact hw
  have h4 : f3 h0 = some (.inr (1, [.int 0, .int 0])) := by rw [ef3]; exact fw_up_s
  exact fw_vret hx hb hr hlocks hw (Nat.le_of_ble_eq_true rfl) (Nat.le_of_ble_eq_true rfl) dX1_init_14 (by rw [ef3, ef1]; exact fw_up_up)

theorem iX1_receive_1 : ∀ w ∈ wsX10, w ∈ wsX1_receive := by decide +kernel
set_option maxHeartbeats 4000000 in
set_option maxRecDepth 100000 in
/-- Pot.receive -/
theorem c_X1_receive (l : Launch) (D : va_G) (A : Nat → Prop) (y : Nat → ClassId) (sa : Nat → Nat) (f : fw_F) (h0 : Nat) (cv sv p0 : Int32) (hf : f h0 = some (.inr (1, [.int cv, .int sv]))) : Met l yX1_receive wsX1_receive ({ frames := 1, cells := 0, slots := 0, locals := 24 } : Room) (cPc D A y sa f [.ref h0, .int p0]) (cQv D A (fun f1 => f1 = fw_up f h0 (.inr (1, [.int (cv + (p0 - (if p0 < sv then p0 else sv))), .int (sv - (if p0 < sv then p0 else sv))])))) 0 0 A := by
  refine fw_met (by decide) rfl [.ref h0, .int p0] (Nat.le_of_ble_eq_true rfl) ?_
  intro p e s m args below meth c ls I hin hE hw hl
  obtain ⟨hx, hb, hr, hts, hown, hlocks, hml⟩ := I
  have hown : s.vm.findClass RX1 = some m.cls := hown
  have hl : lv_has ls 3 [(0, .ref h0), (1, .int p0)] := hl
  refine lv_aload_n hx hb dX1_receive_0 rfl (lv_at hl 0 rfl) ?_
  refine fw_get hx hb hts hown hE.1.1 hw (ci := 1) (fs := [.int cv, .int sv]) (v := .int sv) hf iX1_receive_1 rfl 1 (by decide) rfl (by decide +kernel) dX1_receive_1 ?_
  refine lv_iload_n hx hb dX1_receive_4 rfl (lv_at hl 1 rfl) ?_
  refine va_mmin hx hb (hml.trans hl.1.symm) (own := RX1) hown (hts (.methodLink RX1 16 Lib.Math.min.name) (by decide +kernel)) (hts (.static Lib.Math.min.name) (by decide +kernel)) (hts (.initialized "java/lang/Math") (by decide +kernel)) (hts (.code Lib.Math.min.name Lib.Math.min.code 2 (some .int)) (by decide +kernel)) (Nat.le_of_ble_eq_true rfl) (Nat.le_of_ble_eq_true rfl) (Nat.le_of_ble_eq_true rfl) (Nat.le_of_ble_eq_true rfl) dX1_receive_5 ?_
  refine lv_istore_n (lv' := [(2, .int (if p0 < sv then p0 else sv)), (0, .ref h0), (1, .int p0)]) hx hb dX1_receive_8 rfl hl (by decide) rfl (fun ls hl => ?_)
  refine lv_aload_n hx hb dX1_receive_9 rfl (lv_at hl 1 rfl) ?_
  refine lv_dup hx hb dX1_receive_10 rfl ?_
  refine fw_get hx hb hts hown hE.1.1 hw (ci := 1) (fs := [.int cv, .int sv]) (v := .int sv) hf iX1_receive_1 rfl 1 (by decide) rfl (by decide +kernel) dX1_receive_11 ?_
  refine lv_iload_n hx hb dX1_receive_14 rfl (lv_at hl 0 rfl) ?_
  refine lv_isub hx hb dX1_receive_15 ?_
  refine fw_put hx hb hts hown hE.1.1 hw (ci := 1) (fs := [.int cv, .int sv]) (v := .int (sv - (if p0 < sv then p0 else sv))) hf iX1_receive_1 tyX1 tyX1_ok nmX1 rfl 1 (by decide) rfl rfl rfl (Nat.le_of_ble_eq_true rfl) (by decide +kernel) dX1_receive_16 (fun H locs hw => ?_)
  obtain ⟨f1, ef1⟩ : ∃ z, z = fw_up f h0 (.inr (1, [.int cv, .int (sv - (if p0 < sv then p0 else sv))])) := ⟨_, rfl⟩
  have hw : fw_S D A s.heap f1 H locs := by rw [ef1]; exact hw
  have h2 : f1 h0 = some (.inr (1, [.int cv, .int (sv - (if p0 < sv then p0 else sv))])) := by rw [ef1]; exact fw_up_s
  refine lv_aload_n hx hb dX1_receive_19 rfl (lv_at hl 1 rfl) ?_
  refine lv_dup hx hb dX1_receive_20 rfl ?_
  refine fw_get hx hb hts hown hE.1.1 hw (ci := 1) (fs := [.int cv, .int (sv - (if p0 < sv then p0 else sv))]) (v := .int cv) h2 iX1_receive_1 rfl 0 (by decide) rfl (by decide +kernel) dX1_receive_21 ?_
  refine lv_iload_n hx hb dX1_receive_24 rfl (lv_at hl 2 rfl) ?_
  refine lv_iload_n hx hb dX1_receive_25 rfl (lv_at hl 0 rfl) ?_
  refine lv_isub hx hb dX1_receive_26 ?_
  refine lv_iadd hx hb dX1_receive_27 ?_
  refine fw_put hx hb hts hown hE.1.1 hw (ci := 1) (fs := [.int cv, .int (sv - (if p0 < sv then p0 else sv))]) (v := .int (cv + (p0 - (if p0 < sv then p0 else sv)))) h2 iX1_receive_1 tyX1 tyX1_ok nmX1 rfl 0 (by decide) rfl rfl rfl (Nat.le_of_ble_eq_true rfl) (by decide +kernel) dX1_receive_28 (fun H locs hw => ?_)
  obtain ⟨f3, ef3⟩ : ∃ z, z = fw_up f1 h0 (.inr (1, [.int (cv + (p0 - (if p0 < sv then p0 else sv))), .int (sv - (if p0 < sv then p0 else sv))])) := ⟨_, rfl⟩
  have hw : fw_S D A s.heap f3 H locs := by rw [ef3]; exact hw
  have h4 : f3 h0 = some (.inr (1, [.int (cv + (p0 - (if p0 < sv then p0 else sv))), .int (sv - (if p0 < sv then p0 else sv))])) := by rw [ef3]; exact fw_up_s
  exact fw_vret hx hb hr hlocks hw (Nat.le_of_ble_eq_true rfl) (Nat.le_of_ble_eq_true rfl) dX1_receive_31 (by rw [ef3, ef1]; exact fw_up_up)

theorem iX1_lose_1 : ∀ w ∈ wsX10, w ∈ wsX1_lose := by decide +kernel
set_option maxHeartbeats 4000000 in
set_option maxRecDepth 100000 in
/-- Pot.lose -/
theorem c_X1_lose (l : Launch) (D : va_G) (A : Nat → Prop) (y : Nat → ClassId) (sa : Nat → Nat) (f : fw_F) (h0 : Nat) (cv sv p0 : Int32) (hf : f h0 = some (.inr (1, [.int cv, .int sv]))) : Met l yX1_lose wsX1_lose ({ frames := 1, cells := 0, slots := 0, locals := 24 } : Room) (cPc D A y sa f [.ref h0, .int p0]) (cQv D A (fun f1 => f1 = fw_up f h0 (.inr (1, [.int (cv - (if p0 < cv then p0 else cv)), .int (sv + (p0 - (if p0 < cv then p0 else cv)))])))) 0 0 A := by
  refine fw_met (by decide) rfl [.ref h0, .int p0] (Nat.le_of_ble_eq_true rfl) ?_
  intro p e s m args below meth c ls I hin hE hw hl
  obtain ⟨hx, hb, hr, hts, hown, hlocks, hml⟩ := I
  have hown : s.vm.findClass RX1 = some m.cls := hown
  have hl : lv_has ls 3 [(0, .ref h0), (1, .int p0)] := hl
  refine lv_aload_n hx hb dX1_lose_0 rfl (lv_at hl 0 rfl) ?_
  refine fw_get hx hb hts hown hE.1.1 hw (ci := 1) (fs := [.int cv, .int sv]) (v := .int cv) hf iX1_lose_1 rfl 0 (by decide) rfl (by decide +kernel) dX1_lose_1 ?_
  refine lv_iload_n hx hb dX1_lose_4 rfl (lv_at hl 1 rfl) ?_
  refine va_mmin hx hb (hml.trans hl.1.symm) (own := RX1) hown (hts (.methodLink RX1 16 Lib.Math.min.name) (by decide +kernel)) (hts (.static Lib.Math.min.name) (by decide +kernel)) (hts (.initialized "java/lang/Math") (by decide +kernel)) (hts (.code Lib.Math.min.name Lib.Math.min.code 2 (some .int)) (by decide +kernel)) (Nat.le_of_ble_eq_true rfl) (Nat.le_of_ble_eq_true rfl) (Nat.le_of_ble_eq_true rfl) (Nat.le_of_ble_eq_true rfl) dX1_lose_5 ?_
  refine lv_istore_n (lv' := [(2, .int (if p0 < cv then p0 else cv)), (0, .ref h0), (1, .int p0)]) hx hb dX1_lose_8 rfl hl (by decide) rfl (fun ls hl => ?_)
  refine lv_aload_n hx hb dX1_lose_9 rfl (lv_at hl 1 rfl) ?_
  refine lv_dup hx hb dX1_lose_10 rfl ?_
  refine fw_get hx hb hts hown hE.1.1 hw (ci := 1) (fs := [.int cv, .int sv]) (v := .int cv) hf iX1_lose_1 rfl 0 (by decide) rfl (by decide +kernel) dX1_lose_11 ?_
  refine lv_iload_n hx hb dX1_lose_14 rfl (lv_at hl 0 rfl) ?_
  refine lv_isub hx hb dX1_lose_15 ?_
  refine fw_put hx hb hts hown hE.1.1 hw (ci := 1) (fs := [.int cv, .int sv]) (v := .int (cv - (if p0 < cv then p0 else cv))) hf iX1_lose_1 tyX1 tyX1_ok nmX1 rfl 0 (by decide) rfl rfl rfl (Nat.le_of_ble_eq_true rfl) (by decide +kernel) dX1_lose_16 (fun H locs hw => ?_)
  obtain ⟨f1, ef1⟩ : ∃ z, z = fw_up f h0 (.inr (1, [.int (cv - (if p0 < cv then p0 else cv)), .int sv])) := ⟨_, rfl⟩
  have hw : fw_S D A s.heap f1 H locs := by rw [ef1]; exact hw
  have h2 : f1 h0 = some (.inr (1, [.int (cv - (if p0 < cv then p0 else cv)), .int sv])) := by rw [ef1]; exact fw_up_s
  refine lv_aload_n hx hb dX1_lose_19 rfl (lv_at hl 1 rfl) ?_
  refine lv_dup hx hb dX1_lose_20 rfl ?_
  refine fw_get hx hb hts hown hE.1.1 hw (ci := 1) (fs := [.int (cv - (if p0 < cv then p0 else cv)), .int sv]) (v := .int sv) h2 iX1_lose_1 rfl 1 (by decide) rfl (by decide +kernel) dX1_lose_21 ?_
  refine lv_iload_n hx hb dX1_lose_24 rfl (lv_at hl 2 rfl) ?_
  refine lv_iload_n hx hb dX1_lose_25 rfl (lv_at hl 0 rfl) ?_
  refine lv_isub hx hb dX1_lose_26 ?_
  refine lv_iadd hx hb dX1_lose_27 ?_
  refine fw_put hx hb hts hown hE.1.1 hw (ci := 1) (fs := [.int (cv - (if p0 < cv then p0 else cv)), .int sv]) (v := .int (sv + (p0 - (if p0 < cv then p0 else cv)))) h2 iX1_lose_1 tyX1 tyX1_ok nmX1 rfl 1 (by decide) rfl rfl rfl (Nat.le_of_ble_eq_true rfl) (by decide +kernel) dX1_lose_28 (fun H locs hw => ?_)
  obtain ⟨f3, ef3⟩ : ∃ z, z = fw_up f1 h0 (.inr (1, [.int (cv - (if p0 < cv then p0 else cv)), .int (sv + (p0 - (if p0 < cv then p0 else cv)))])) := ⟨_, rfl⟩
  have hw : fw_S D A s.heap f3 H locs := by rw [ef3]; exact hw
  have h4 : f3 h0 = some (.inr (1, [.int (cv - (if p0 < cv then p0 else cv)), .int (sv + (p0 - (if p0 < cv then p0 else cv)))])) := by rw [ef3]; exact fw_up_s
  exact fw_vret hx hb hr hlocks hw (Nat.le_of_ble_eq_true rfl) (Nat.le_of_ble_eq_true rfl) dX1_lose_31 (by rw [ef3, ef1]; exact fw_up_up)

theorem iX4_init_4 : ∀ w ∈ wsX40, w ∈ wsX4_init := by decide +kernel
set_option maxHeartbeats 4000000 in
set_option maxRecDepth 100000 in
/-- Sheet(week, day, night) -/
theorem c_X4_init (l : Launch) (D : va_G) (A : Nat → Prop) (y : Nat → ClassId) (sa : Nat → Nat) (f : fw_F) (h0 : Nat) (p0 : Int32) (p1 : Int32) (p2 : Int32) (hf : f h0 = some (.inr (4, [.int 0, .int 0, .int 0]))) : Met l yX4_init wsX4_init ({ frames := 1, cells := 0, slots := 0, locals := 20 } : Room) (cPc D A y sa f [.ref h0, .int p0, .int p1, .int p2]) (cQv D A (fun f1 => f1 = fw_up f h0 (.inr (4, [.int p0, .int p1, .int p2])))) 0 0 A := by
  refine fw_met (by decide) rfl [.ref h0, .int p0, .int p1, .int p2] (Nat.le_of_ble_eq_true rfl) ?_
  intro p e s m args below meth c ls I hin hE hw hl
  obtain ⟨hx, hb, hr, hts, hown, hlocks, hml⟩ := I
  have hown : s.vm.findClass RX4 = some m.cls := hown
  have hl : lv_has ls 4 [(0, .ref h0), (1, .int p0), (2, .int p1), (3, .int p2)] := hl
  refine lv_aload_n hx hb dX4_init_0 rfl (lv_at hl 0 rfl) ?_
  refine W.objInit hx hb hown (hts (.methodLink RX4 1 objectInit) (by decide +kernel)) (hts (.instanceMethod objectInit) (by decide +kernel)) (hts (.code objectInit ⟨#[0xb1]⟩ 1 none) (by decide +kernel)) rfl (by rw [hml]; exact hl.1) rfl dX4_init_1 (Nat.le_of_ble_eq_true rfl) (Nat.le_of_ble_eq_true rfl) ?_
  refine W.eq (g2 := F0 m 4 ls []) rfl ?_
  refine lv_aload_n hx hb dX4_init_4 rfl (lv_at hl 0 rfl) ?_
  refine lv_iload_n hx hb dX4_init_5 rfl (lv_at hl 1 rfl) ?_
  refine fw_putF hx hb hts hown hE.1.1 hw (ci := 4) (fs := [.int 0, .int 0, .int 0]) (v := .int p0) hf iX4_init_4 tyX4 tyX4_ok nmX4 rfl 0 (by decide) rfl (hin rfl) rfl rfl rfl (Nat.le_of_ble_eq_true rfl) (by decide +kernel) dX4_init_6 (fun H locs hw => ?_)
  obtain ⟨f1, ef1⟩ : ∃ z, z = fw_up f h0 (.inr (4, [.int p0, .int 0, .int 0])) := ⟨_, rfl⟩
  have hw : fw_S D A s.heap f1 H locs := by rw [ef1]; exact hw
  have h2 : f1 h0 = some (.inr (4, [.int p0, .int 0, .int 0])) := by rw [ef1]; exact fw_up_s
  refine lv_aload_n hx hb dX4_init_9 rfl (lv_at hl 0 rfl) ?_
  refine lv_iload_n hx hb dX4_init_10 rfl (lv_at hl 2 rfl) ?_
  refine fw_put hx hb hts hown hE.1.1 hw (ci := 4) (fs := [.int p0, .int 0, .int 0]) (v := .int p1) h2 iX4_init_4 tyX4 tyX4_ok nmX4 rfl 1 (by decide) rfl rfl rfl (Nat.le_of_ble_eq_true rfl) (by decide +kernel) dX4_init_11 (fun H locs hw => ?_)
  obtain ⟨f3, ef3⟩ : ∃ z, z = fw_up f1 h0 (.inr (4, [.int p0, .int p1, .int 0])) := ⟨_, rfl⟩
  have hw : fw_S D A s.heap f3 H locs := by rw [ef3]; exact hw
  have h4 : f3 h0 = some (.inr (4, [.int p0, .int p1, .int 0])) := by rw [ef3]; exact fw_up_s
  refine lv_aload_n hx hb dX4_init_14 rfl (lv_at hl 0 rfl) ?_
  refine lv_iload_n hx hb dX4_init_15 rfl (lv_at hl 3 rfl) ?_
  refine fw_put hx hb hts hown hE.1.1 hw (ci := 4) (fs := [.int p0, .int p1, .int 0]) (v := .int p2) h4 iX4_init_4 tyX4 tyX4_ok nmX4 rfl 2 (by decide) rfl rfl rfl (Nat.le_of_ble_eq_true rfl) (by decide +kernel) dX4_init_16 (fun H locs hw => ?_)
  obtain ⟨f5, ef5⟩ : ∃ z, z = fw_up f3 h0 (.inr (4, [.int p0, .int p1, .int p2])) := ⟨_, rfl⟩
  have hw : fw_S D A s.heap f5 H locs := by rw [ef5]; exact hw
  have h6 : f5 h0 = some (.inr (4, [.int p0, .int p1, .int p2])) := by rw [ef5]; exact fw_up_s
  exact fw_vret hx hb hr hlocks hw (Nat.le_of_ble_eq_true rfl) (Nat.le_of_ble_eq_true rfl) dX4_init_19 (by rw [ef5, ef3, ef1]; simp only [fw_up_up])

theorem iX5_init_5 : ∀ w ∈ wsX50, w ∈ wsX5_init := by decide +kernel
set_option maxHeartbeats 4000000 in
set_option maxRecDepth 100000 in
/-- Slip(..) -/
theorem c_X5_init (l : Launch) (D : va_G) (A : Nat → Prop) (y : Nat → ClassId) (sa : Nat → Nat) (f : fw_F) (h0 : Nat) (p0 : Int32) (p1 : Int32) (p2 : Int32) (p3 : Int32) (hf : f h0 = some (.inr (5, [.int 0, .int 0, .int 0, .int 0]))) : Met l yX5_init wsX5_init ({ frames := 1, cells := 0, slots := 0, locals := 20 } : Room) (cPc D A y sa f [.ref h0, .int p0, .int p1, .int p2, .int p3]) (cQv D A (fun f1 => f1 = fw_up f h0 (.inr (5, [.int p0, .int p1, .int p2, .int p3])))) 0 0 A := by
  refine fw_met (by decide) rfl [.ref h0, .int p0, .int p1, .int p2, .int p3] (Nat.le_of_ble_eq_true rfl) ?_
  intro p e s m args below meth c ls I hin hE hw hl
  obtain ⟨hx, hb, hr, hts, hown, hlocks, hml⟩ := I
  have hown : s.vm.findClass RX5 = some m.cls := hown
  have hl : lv_has ls 5 [(0, .ref h0), (1, .int p0), (2, .int p1), (3, .int p2), (4, .int p3)] := hl
  refine lv_aload_n hx hb dX5_init_0 rfl (lv_at hl 0 rfl) ?_
  refine W.objInit hx hb hown (hts (.methodLink RX5 3 objectInit) (by decide +kernel)) (hts (.instanceMethod objectInit) (by decide +kernel)) (hts (.code objectInit ⟨#[0xb1]⟩ 1 none) (by decide +kernel)) rfl (by rw [hml]; exact hl.1) rfl dX5_init_1 (Nat.le_of_ble_eq_true rfl) (Nat.le_of_ble_eq_true rfl) ?_
  refine W.eq (g2 := F0 m 4 ls []) rfl ?_
  refine lv_aload_n hx hb dX5_init_4 rfl (lv_at hl 0 rfl) ?_
  refine lv_iload_n hx hb dX5_init_5 rfl (lv_at hl 1 rfl) ?_
  refine fw_putF hx hb hts hown hE.1.1 hw (ci := 5) (fs := [.int 0, .int 0, .int 0, .int 0]) (v := .int p0) hf iX5_init_5 tyX5 tyX5_ok nmX5 rfl 0 (by decide) rfl (hin rfl) rfl rfl rfl (Nat.le_of_ble_eq_true rfl) (by decide +kernel) dX5_init_6 (fun H locs hw => ?_)
  obtain ⟨f1, ef1⟩ : ∃ z, z = fw_up f h0 (.inr (5, [.int p0, .int 0, .int 0, .int 0])) := ⟨_, rfl⟩
  have hw : fw_S D A s.heap f1 H locs := by rw [ef1]; exact hw
  have h2 : f1 h0 = some (.inr (5, [.int p0, .int 0, .int 0, .int 0])) := by rw [ef1]; exact fw_up_s
  refine lv_aload_n hx hb dX5_init_9 rfl (lv_at hl 0 rfl) ?_
  refine lv_iload_n hx hb dX5_init_10 rfl (lv_at hl 2 rfl) ?_
  refine fw_putF hx hb hts hown hE.1.1 hw (ci := 5) (fs := [.int p0, .int 0, .int 0, .int 0]) (v := .int p1) h2 iX5_init_5 tyX5 tyX5_ok nmX5 rfl 1 (by decide) rfl (hin rfl) rfl rfl rfl (Nat.le_of_ble_eq_true rfl) (by decide +kernel) dX5_init_11 (fun H locs hw => ?_)
  obtain ⟨f3, ef3⟩ : ∃ z, z = fw_up f1 h0 (.inr (5, [.int p0, .int p1, .int 0, .int 0])) := ⟨_, rfl⟩
  have hw : fw_S D A s.heap f3 H locs := by rw [ef3]; exact hw
  have h4 : f3 h0 = some (.inr (5, [.int p0, .int p1, .int 0, .int 0])) := by rw [ef3]; exact fw_up_s
  refine lv_aload_n hx hb dX5_init_14 rfl (lv_at hl 0 rfl) ?_
  refine lv_iload_n hx hb dX5_init_15 rfl (lv_at hl 3 rfl) ?_
  refine fw_putF hx hb hts hown hE.1.1 hw (ci := 5) (fs := [.int p0, .int p1, .int 0, .int 0]) (v := .int p2) h4 iX5_init_5 tyX5 tyX5_ok nmX5 rfl 2 (by decide) rfl (hin rfl) rfl rfl rfl (Nat.le_of_ble_eq_true rfl) (by decide +kernel) dX5_init_16 (fun H locs hw => ?_)
  obtain ⟨f5, ef5⟩ : ∃ z, z = fw_up f3 h0 (.inr (5, [.int p0, .int p1, .int p2, .int 0])) := ⟨_, rfl⟩
  have hw : fw_S D A s.heap f5 H locs := by rw [ef5]; exact hw
  have h6 : f5 h0 = some (.inr (5, [.int p0, .int p1, .int p2, .int 0])) := by rw [ef5]; exact fw_up_s
  refine lv_aload_n hx hb dX5_init_19 rfl (lv_at hl 0 rfl) ?_
  refine lv_iload hx hb dX5_init_20 (lv_at hl 4 rfl) ?_
  refine fw_putF hx hb hts hown hE.1.1 hw (ci := 5) (fs := [.int p0, .int p1, .int p2, .int 0]) (v := .int p3) h6 iX5_init_5 tyX5 tyX5_ok nmX5 rfl 3 (by decide) rfl (hin rfl) rfl rfl rfl (Nat.le_of_ble_eq_true rfl) (by decide +kernel) dX5_init_22 (fun H locs hw => ?_)
  obtain ⟨f7, ef7⟩ : ∃ z, z = fw_up f5 h0 (.inr (5, [.int p0, .int p1, .int p2, .int p3])) := ⟨_, rfl⟩
  have hw : fw_S D A s.heap f7 H locs := by rw [ef7]; exact hw
  have h8 : f7 h0 = some (.inr (5, [.int p0, .int p1, .int p2, .int p3])) := by rw [ef7]; exact fw_up_s
  exact fw_vret hx hb hr hlocks hw (Nat.le_of_ble_eq_true rfl) (Nat.le_of_ble_eq_true rfl) dX5_init_25 (by rw [ef7, ef5, ef3, ef1]; simp only [fw_up_up])

theorem iX6_init_6 : ∀ w ∈ wsX60, w ∈ wsX6_init := by decide +kernel
set_option maxHeartbeats 4000000 in
set_option maxRecDepth 100000 in
/-- Transfer(pot, amount) -/
theorem c_X6_init (l : Launch) (D : va_G) (A : Nat → Prop) (y : Nat → ClassId) (sa : Nat → Nat) (f : fw_F) (h0 : Nat) (p0 : Nat) (p1 : Int32) (hf : f h0 = some (.inr (6, [.null, .int 0, .int 0]))) : Met l yX6_init wsX6_init ({ frames := 1, cells := 0, slots := 0, locals := 20 } : Room) (cPc D A y sa f [.ref h0, .ref p0, .int p1]) (cQv D A (fun f1 => f1 = fw_up f h0 (.inr (6, [.ref p0, .int p1, .int 0])))) 0 0 A := by
  refine fw_met (by decide) rfl [.ref h0, .ref p0, .int p1] (Nat.le_of_ble_eq_true rfl) ?_
  intro p e s m args below meth c ls I hin hE hw hl
  obtain ⟨hx, hb, hr, hts, hown, hlocks, hml⟩ := I
  have hown : s.vm.findClass RX6 = some m.cls := hown
  have hl : lv_has ls 3 [(0, .ref h0), (1, .ref p0), (2, .int p1)] := hl
  refine lv_aload_n hx hb dX6_init_0 rfl (lv_at hl 0 rfl) ?_
  refine W.objInit hx hb hown (hts (.methodLink RX6 1 objectInit) (by decide +kernel)) (hts (.instanceMethod objectInit) (by decide +kernel)) (hts (.code objectInit ⟨#[0xb1]⟩ 1 none) (by decide +kernel)) rfl (by rw [hml]; exact hl.1) rfl dX6_init_1 (Nat.le_of_ble_eq_true rfl) (Nat.le_of_ble_eq_true rfl) ?_
  refine W.eq (g2 := F0 m 4 ls []) rfl ?_
  refine lv_aload_n hx hb dX6_init_4 rfl (lv_at hl 0 rfl) ?_
  refine lv_iconst (v := 0) hx hb dX6_init_5 (by decide) ?_
  refine fw_put hx hb hts hown hE.1.1 hw (ci := 6) (fs := [.null, .int 0, .int 0]) (v := .int 0) hf iX6_init_6 tyX6 tyX6_ok nmX6 rfl 2 (by decide) rfl (by decide +kernel) rfl (Nat.le_of_ble_eq_true rfl) (by decide +kernel) dX6_init_6 (fun H locs hw => ?_)
  obtain ⟨f1, ef1⟩ : ∃ z, z = fw_up f h0 (.inr (6, [.null, .int 0, .int 0])) := ⟨_, rfl⟩
  have hw : fw_S D A s.heap f1 H locs := by rw [ef1]; exact hw
  have h2 : f1 h0 = some (.inr (6, [.null, .int 0, .int 0])) := by rw [ef1]; exact fw_up_s
  refine lv_aload_n hx hb dX6_init_9 rfl (lv_at hl 0 rfl) ?_
  refine lv_aload_n hx hb dX6_init_10 rfl (lv_at hl 1 rfl) ?_
  refine fw_putF hx hb hts hown hE.1.1 hw (ci := 6) (fs := [.null, .int 0, .int 0]) (v := .ref p0) h2 iX6_init_6 tyX6 tyX6_ok nmX6 rfl 0 (by decide) rfl (hin rfl) rfl rfl rfl (Nat.le_of_ble_eq_true rfl) (by decide +kernel) dX6_init_11 (fun H locs hw => ?_)
  obtain ⟨f3, ef3⟩ : ∃ z, z = fw_up f1 h0 (.inr (6, [.ref p0, .int 0, .int 0])) := ⟨_, rfl⟩
  have hw : fw_S D A s.heap f3 H locs := by rw [ef3]; exact hw
  have h4 : f3 h0 = some (.inr (6, [.ref p0, .int 0, .int 0])) := by rw [ef3]; exact fw_up_s
  refine lv_aload_n hx hb dX6_init_14 rfl (lv_at hl 0 rfl) ?_
  refine lv_iload_n hx hb dX6_init_15 rfl (lv_at hl 2 rfl) ?_
  refine fw_putF hx hb hts hown hE.1.1 hw (ci := 6) (fs := [.ref p0, .int 0, .int 0]) (v := .int p1) h4 iX6_init_6 tyX6 tyX6_ok nmX6 rfl 1 (by decide) rfl (hin rfl) rfl rfl rfl (Nat.le_of_ble_eq_true rfl) (by decide +kernel) dX6_init_16 (fun H locs hw => ?_)
  obtain ⟨f5, ef5⟩ : ∃ z, z = fw_up f3 h0 (.inr (6, [.ref p0, .int p1, .int 0])) := ⟨_, rfl⟩
  have hw : fw_S D A s.heap f5 H locs := by rw [ef5]; exact hw
  have h6 : f5 h0 = some (.inr (6, [.ref p0, .int p1, .int 0])) := by rw [ef5]; exact fw_up_s
  exact fw_vret hx hb hr hlocks hw (Nat.le_of_ble_eq_true rfl) (Nat.le_of_ble_eq_true rfl) dX6_init_19 (by rw [ef5, ef3, ef1]; simp only [fw_up_up])

theorem iX0_init_0 : ∀ w ∈ wsX00, w ∈ wsX0_init := by decide +kernel
set_option maxHeartbeats 4000000 in
set_option maxRecDepth 100000 in
/-- Order(..) -/
theorem c_X0_init (l : Launch) (D : va_G) (A : Nat → Prop) (y : Nat → ClassId) (sa : Nat → Nat) (f : fw_F) (h0 : Nat) (p0 : Nat) (p1 : Int32) (p2 : Int32) (p3 : Int32) (hf : f h0 = some (.inr (0, [.null, .int 0, .int 0, .int 0]))) : Met l yX0_init wsX0_init ({ frames := 1, cells := 0, slots := 0, locals := 20 } : Room) (cPc D A y sa f [.ref h0, .ref p0, .int p1, .int p2, .int p3]) (cQv D A (fun f1 => f1 = fw_up f h0 (.inr (0, [.ref p0, .int p1, .int p2, .int p3])))) 0 0 A := by
  refine fw_met (by decide) rfl [.ref h0, .ref p0, .int p1, .int p2, .int p3] (Nat.le_of_ble_eq_true rfl) ?_
  intro p e s m args below meth c ls I hin hE hw hl
  obtain ⟨hx, hb, hr, hts, hown, hlocks, hml⟩ := I
  have hown : s.vm.findClass RX0 = some m.cls := hown
  have hl : lv_has ls 5 [(0, .ref h0), (1, .ref p0), (2, .int p1), (3, .int p2), (4, .int p3)] := hl
  refine lv_aload_n hx hb dX0_init_0 rfl (lv_at hl 0 rfl) ?_
  refine W.objInit hx hb hown (hts (.methodLink RX0 1 objectInit) (by decide +kernel)) (hts (.instanceMethod objectInit) (by decide +kernel)) (hts (.code objectInit ⟨#[0xb1]⟩ 1 none) (by decide +kernel)) rfl (by rw [hml]; exact hl.1) rfl dX0_init_1 (Nat.le_of_ble_eq_true rfl) (Nat.le_of_ble_eq_true rfl) ?_
  refine W.eq (g2 := F0 m 4 ls []) rfl ?_
  refine lv_aload_n hx hb dX0_init_4 rfl (lv_at hl 0 rfl) ?_
  refine lv_aload_n hx hb dX0_init_5 rfl (lv_at hl 1 rfl) ?_
  refine fw_putF hx hb hts hown hE.1.1 hw (ci := 0) (fs := [.null, .int 0, .int 0, .int 0]) (v := .ref p0) hf iX0_init_0 tyX0 tyX0_ok nmX0 rfl 0 (by decide) rfl (hin rfl) rfl rfl rfl (Nat.le_of_ble_eq_true rfl) (by decide +kernel) dX0_init_6 (fun H locs hw => ?_)
  obtain ⟨f1, ef1⟩ : ∃ z, z = fw_up f h0 (.inr (0, [.ref p0, .int 0, .int 0, .int 0])) := ⟨_, rfl⟩
  have hw : fw_S D A s.heap f1 H locs := by rw [ef1]; exact hw
  have h2 : f1 h0 = some (.inr (0, [.ref p0, .int 0, .int 0, .int 0])) := by rw [ef1]; exact fw_up_s
  refine lv_aload_n hx hb dX0_init_9 rfl (lv_at hl 0 rfl) ?_
  refine lv_iload_n hx hb dX0_init_10 rfl (lv_at hl 2 rfl) ?_
  refine fw_putF hx hb hts hown hE.1.1 hw (ci := 0) (fs := [.ref p0, .int 0, .int 0, .int 0]) (v := .int p1) h2 iX0_init_0 tyX0 tyX0_ok nmX0 rfl 1 (by decide) rfl (hin rfl) rfl rfl rfl (Nat.le_of_ble_eq_true rfl) (by decide +kernel) dX0_init_11 (fun H locs hw => ?_)
  obtain ⟨f3, ef3⟩ : ∃ z, z = fw_up f1 h0 (.inr (0, [.ref p0, .int p1, .int 0, .int 0])) := ⟨_, rfl⟩
  have hw : fw_S D A s.heap f3 H locs := by rw [ef3]; exact hw
  have h4 : f3 h0 = some (.inr (0, [.ref p0, .int p1, .int 0, .int 0])) := by rw [ef3]; exact fw_up_s
  refine lv_aload_n hx hb dX0_init_14 rfl (lv_at hl 0 rfl) ?_
  refine lv_iload_n hx hb dX0_init_15 rfl (lv_at hl 3 rfl) ?_
  refine fw_put hx hb hts hown hE.1.1 hw (ci := 0) (fs := [.ref p0, .int p1, .int 0, .int 0]) (v := .int p2) h4 iX0_init_0 tyX0 tyX0_ok nmX0 rfl 2 (by decide) rfl rfl rfl (Nat.le_of_ble_eq_true rfl) (by decide +kernel) dX0_init_16 (fun H locs hw => ?_)
  obtain ⟨f5, ef5⟩ : ∃ z, z = fw_up f3 h0 (.inr (0, [.ref p0, .int p1, .int p2, .int 0])) := ⟨_, rfl⟩
  have hw : fw_S D A s.heap f5 H locs := by rw [ef5]; exact hw
  have h6 : f5 h0 = some (.inr (0, [.ref p0, .int p1, .int p2, .int 0])) := by rw [ef5]; exact fw_up_s
  refine lv_aload_n hx hb dX0_init_19 rfl (lv_at hl 0 rfl) ?_
  refine lv_iload hx hb dX0_init_20 (lv_at hl 4 rfl) ?_
  refine fw_putF hx hb hts hown hE.1.1 hw (ci := 0) (fs := [.ref p0, .int p1, .int p2, .int 0]) (v := .int p3) h6 iX0_init_0 tyX0 tyX0_ok nmX0 rfl 3 (by decide) rfl (hin rfl) rfl rfl rfl (Nat.le_of_ble_eq_true rfl) (by decide +kernel) dX0_init_22 (fun H locs hw => ?_)
  obtain ⟨f7, ef7⟩ : ∃ z, z = fw_up f5 h0 (.inr (0, [.ref p0, .int p1, .int p2, .int p3])) := ⟨_, rfl⟩
  have hw : fw_S D A s.heap f7 H locs := by rw [ef7]; exact hw
  have h8 : f7 h0 = some (.inr (0, [.ref p0, .int p1, .int p2, .int p3])) := by rw [ef7]; exact fw_up_s
  exact fw_vret hx hb hr hlocks hw (Nat.le_of_ble_eq_true rfl) (Nat.le_of_ble_eq_true rfl) dX0_init_25 (by rw [ef7, ef5, ef3, ef1]; simp only [fw_up_up])

theorem iX0_payOff_0 : ∀ w ∈ wsX00, w ∈ wsX0_payOff := by decide +kernel
set_option maxHeartbeats 4000000 in
set_option maxRecDepth 100000 in
/-- Order.payOff -/
theorem c_X0_payOff (l : Launch) (D : va_G) (A : Nat → Prop) (y : Nat → ClassId) (sa : Nat → Nat) (f : fw_F) (h0 wv : Nat) (gv lv0 mv p0 : Int32) (hf : f h0 = some (.inr (0, [.ref wv, .int gv, .int lv0, .int mv]))) : Met l yX0_payOff wsX0_payOff ({ frames := 1, cells := 0, slots := 0, locals := 26 } : Room) (cPc D A y sa f [.ref h0, .int p0]) (cQi D A (fun r f1 => r = payv p0 lv0 mv ∧ f1 = fw_up f h0 (.inr (0, [.ref wv, .int gv, .int (lv0 - payv p0 lv0 mv), .int mv])))) 0 0 A := by
  refine fw_met (by decide) rfl [.ref h0, .int p0] (Nat.le_of_ble_eq_true rfl) ?_
  intro p e s m args below meth c ls I hin hE hw hl
  obtain ⟨hx, hb, hr, hts, hown, hlocks, hml⟩ := I
  have hown : s.vm.findClass RX0 = some m.cls := hown
  have hl : lv_has ls 3 [(0, .ref h0), (1, .int p0)] := hl
  refine lv_iconst (v := 0) hx hb dX0_payOff_0 (by decide) ?_
  refine lv_iload_n hx hb dX0_payOff_1 rfl (lv_at hl 1 rfl) ?_
  refine lv_aload_n hx hb dX0_payOff_2 rfl (lv_at hl 0 rfl) ?_
  refine fw_get hx hb hts hown hE.1.1 hw (ci := 0) (fs := [.ref wv, .int gv, .int lv0, .int mv]) (v := .int lv0) hf iX0_payOff_0 rfl 2 (by decide) rfl (by decide +kernel) dX0_payOff_3 ?_
  refine lv_aload_n hx hb dX0_payOff_6 rfl (lv_at hl 0 rfl) ?_
  refine fw_get hx hb hts hown hE.1.1 hw (ci := 0) (fs := [.ref wv, .int gv, .int lv0, .int mv]) (v := .int mv) hf iX0_payOff_0 rfl 3 (by decide) rfl (by decide +kernel) dX0_payOff_7 ?_
  refine va_mmin hx hb (hml.trans hl.1.symm) (own := RX0) hown (hts (.methodLink RX0 23 Lib.Math.min.name) (by decide +kernel)) (hts (.static Lib.Math.min.name) (by decide +kernel)) (hts (.initialized "java/lang/Math") (by decide +kernel)) (hts (.code Lib.Math.min.name Lib.Math.min.code 2 (some .int)) (by decide +kernel)) (Nat.le_of_ble_eq_true rfl) (Nat.le_of_ble_eq_true rfl) (Nat.le_of_ble_eq_true rfl) (Nat.le_of_ble_eq_true rfl) dX0_payOff_10 ?_
  refine va_mmin hx hb (hml.trans hl.1.symm) (own := RX0) hown (hts (.methodLink RX0 23 Lib.Math.min.name) (by decide +kernel)) (hts (.static Lib.Math.min.name) (by decide +kernel)) (hts (.initialized "java/lang/Math") (by decide +kernel)) (hts (.code Lib.Math.min.name Lib.Math.min.code 2 (some .int)) (by decide +kernel)) (Nat.le_of_ble_eq_true rfl) (Nat.le_of_ble_eq_true rfl) (Nat.le_of_ble_eq_true rfl) (Nat.le_of_ble_eq_true rfl) dX0_payOff_13 ?_
  refine va_mmax hx hb (hml.trans hl.1.symm) (own := RX0) hown (hts (.methodLink RX0 29 Lib.Math.max.name) (by decide +kernel)) (hts (.static Lib.Math.max.name) (by decide +kernel)) (hts (.initialized "java/lang/Math") (by decide +kernel)) (hts (.code Lib.Math.max.name Lib.Math.max.code 2 (some .int)) (by decide +kernel)) (Nat.le_of_ble_eq_true rfl) (Nat.le_of_ble_eq_true rfl) (Nat.le_of_ble_eq_true rfl) (Nat.le_of_ble_eq_true rfl) dX0_payOff_16 ?_
  refine lv_istore_n (lv' := [(2, .int (if 0 < (if (if mv < lv0 then mv else lv0) < p0 then (if mv < lv0 then mv else lv0) else p0) then (if (if mv < lv0 then mv else lv0) < p0 then (if mv < lv0 then mv else lv0) else p0) else 0)), (0, .ref h0), (1, .int p0)]) hx hb dX0_payOff_19 rfl hl (by decide) rfl (fun ls hl => ?_)
  refine lv_aload_n hx hb dX0_payOff_20 rfl (lv_at hl 1 rfl) ?_
  refine lv_dup hx hb dX0_payOff_21 rfl ?_
  refine fw_get hx hb hts hown hE.1.1 hw (ci := 0) (fs := [.ref wv, .int gv, .int lv0, .int mv]) (v := .int lv0) hf iX0_payOff_0 rfl 2 (by decide) rfl (by decide +kernel) dX0_payOff_22 ?_
  refine lv_iload_n hx hb dX0_payOff_25 rfl (lv_at hl 0 rfl) ?_
  refine lv_isub hx hb dX0_payOff_26 ?_
  refine fw_put hx hb hts hown hE.1.1 hw (ci := 0) (fs := [.ref wv, .int gv, .int lv0, .int mv]) (v := .int (lv0 - (if 0 < (if (if mv < lv0 then mv else lv0) < p0 then (if mv < lv0 then mv else lv0) else p0) then (if (if mv < lv0 then mv else lv0) < p0 then (if mv < lv0 then mv else lv0) else p0) else 0))) hf iX0_payOff_0 tyX0 tyX0_ok nmX0 rfl 2 (by decide) rfl rfl rfl (Nat.le_of_ble_eq_true rfl) (by decide +kernel) dX0_payOff_27 (fun H locs hw => ?_)
  obtain ⟨f1, ef1⟩ : ∃ z, z = fw_up f h0 (.inr (0, [.ref wv, .int gv, .int (lv0 - (if 0 < (if (if mv < lv0 then mv else lv0) < p0 then (if mv < lv0 then mv else lv0) else p0) then (if (if mv < lv0 then mv else lv0) < p0 then (if mv < lv0 then mv else lv0) else p0) else 0)), .int mv])) := ⟨_, rfl⟩
  have hw : fw_S D A s.heap f1 H locs := by rw [ef1]; exact hw
  have h2 : f1 h0 = some (.inr (0, [.ref wv, .int gv, .int (lv0 - (if 0 < (if (if mv < lv0 then mv else lv0) < p0 then (if mv < lv0 then mv else lv0) else p0) then (if (if mv < lv0 then mv else lv0) < p0 then (if mv < lv0 then mv else lv0) else p0) else 0)), .int mv])) := by rw [ef1]; exact fw_up_s
  refine lv_iload_n hx hb dX0_payOff_30 rfl (lv_at hl 0 rfl) ?_
  exact fw_iret hx hb hr hlocks hw (Nat.le_of_ble_eq_true rfl) (Nat.le_of_ble_eq_true rfl) dX0_payOff_31 (⟨rfl, by rw [ef1]; rfl⟩)

theorem iX7_owe_7 : ∀ w ∈ wsX70, w ∈ wsX7_owe := by decide +kernel
set_option maxHeartbeats 4000000 in
set_option maxRecDepth 100000 in
/-- Worker.owe -/
theorem c_X7_owe (l : Launch) (D : va_G) (A : Nat → Prop) (y : Nat → ClassId) (sa : Nat → Nat) (f : fw_F) (h0 pv rv shv slv : Nat) (kv cv tv ev p0 : Int32) (hf : f h0 = some (.inr (7, [.ref pv, .ref rv, .int kv, .int cv, .int tv, .int ev, .ref shv, .ref slv]))) : Met l yX7_owe wsX7_owe ({ frames := 1, cells := 0, slots := 0, locals := 20 } : Room) (cPc D A y sa f [.ref h0, .int p0]) (cQv D A (fun f1 => f1 = fw_up f h0 (.inr (7, [.ref pv, .ref rv, .int kv, .int (cv - p0), .int (tv + p0), .int (ev + p0), .ref shv, .ref slv])))) 0 0 A := by
  refine fw_met (by decide) rfl [.ref h0, .int p0] (Nat.le_of_ble_eq_true rfl) ?_
  intro p e s m args below meth c ls I hin hE hw hl
  obtain ⟨hx, hb, hr, hts, hown, hlocks, hml⟩ := I
  have hown : s.vm.findClass RX7 = some m.cls := hown
  have hl : lv_has ls 2 [(0, .ref h0), (1, .int p0)] := hl
  refine lv_aload_n hx hb dX7_owe_0 rfl (lv_at hl 0 rfl) ?_
  refine lv_dup hx hb dX7_owe_1 rfl ?_
  refine fw_get hx hb hts hown hE.1.1 hw (ci := 7) (fs := [.ref pv, .ref rv, .int kv, .int cv, .int tv, .int ev, .ref shv, .ref slv]) (v := .int tv) hf iX7_owe_7 rfl 4 (by decide) rfl (by decide +kernel) dX7_owe_2 ?_
  refine lv_iload_n hx hb dX7_owe_5 rfl (lv_at hl 1 rfl) ?_
  refine lv_iadd hx hb dX7_owe_6 ?_
  refine fw_put hx hb hts hown hE.1.1 hw (ci := 7) (fs := [.ref pv, .ref rv, .int kv, .int cv, .int tv, .int ev, .ref shv, .ref slv]) (v := .int (tv + p0)) hf iX7_owe_7 tyX7 tyX7_ok nmX7 rfl 4 (by decide) rfl rfl rfl (Nat.le_of_ble_eq_true rfl) (by decide +kernel) dX7_owe_7 (fun H locs hw => ?_)
  obtain ⟨f1, ef1⟩ : ∃ z, z = fw_up f h0 (.inr (7, [.ref pv, .ref rv, .int kv, .int cv, .int (tv + p0), .int ev, .ref shv, .ref slv])) := ⟨_, rfl⟩
  have hw : fw_S D A s.heap f1 H locs := by rw [ef1]; exact hw
  have h2 : f1 h0 = some (.inr (7, [.ref pv, .ref rv, .int kv, .int cv, .int (tv + p0), .int ev, .ref shv, .ref slv])) := by rw [ef1]; exact fw_up_s
  refine lv_aload_n hx hb dX7_owe_10 rfl (lv_at hl 0 rfl) ?_
  refine lv_dup hx hb dX7_owe_11 rfl ?_
  refine fw_get hx hb hts hown hE.1.1 hw (ci := 7) (fs := [.ref pv, .ref rv, .int kv, .int cv, .int (tv + p0), .int ev, .ref shv, .ref slv]) (v := .int ev) h2 iX7_owe_7 rfl 5 (by decide) rfl (by decide +kernel) dX7_owe_12 ?_
  refine lv_iload_n hx hb dX7_owe_15 rfl (lv_at hl 1 rfl) ?_
  refine lv_iadd hx hb dX7_owe_16 ?_
  refine fw_put hx hb hts hown hE.1.1 hw (ci := 7) (fs := [.ref pv, .ref rv, .int kv, .int cv, .int (tv + p0), .int ev, .ref shv, .ref slv]) (v := .int (ev + p0)) h2 iX7_owe_7 tyX7 tyX7_ok nmX7 rfl 5 (by decide) rfl rfl rfl (Nat.le_of_ble_eq_true rfl) (by decide +kernel) dX7_owe_17 (fun H locs hw => ?_)
  obtain ⟨f3, ef3⟩ : ∃ z, z = fw_up f1 h0 (.inr (7, [.ref pv, .ref rv, .int kv, .int cv, .int (tv + p0), .int (ev + p0), .ref shv, .ref slv])) := ⟨_, rfl⟩
  have hw : fw_S D A s.heap f3 H locs := by rw [ef3]; exact hw
  have h4 : f3 h0 = some (.inr (7, [.ref pv, .ref rv, .int kv, .int cv, .int (tv + p0), .int (ev + p0), .ref shv, .ref slv])) := by rw [ef3]; exact fw_up_s
  refine lv_aload_n hx hb dX7_owe_20 rfl (lv_at hl 0 rfl) ?_
  refine lv_dup hx hb dX7_owe_21 rfl ?_
  refine fw_get hx hb hts hown hE.1.1 hw (ci := 7) (fs := [.ref pv, .ref rv, .int kv, .int cv, .int (tv + p0), .int (ev + p0), .ref shv, .ref slv]) (v := .int cv) h4 iX7_owe_7 rfl 3 (by decide) rfl (by decide +kernel) dX7_owe_22 ?_
  refine lv_iload_n hx hb dX7_owe_25 rfl (lv_at hl 1 rfl) ?_
  refine lv_isub hx hb dX7_owe_26 ?_
  refine fw_put hx hb hts hown hE.1.1 hw (ci := 7) (fs := [.ref pv, .ref rv, .int kv, .int cv, .int (tv + p0), .int (ev + p0), .ref shv, .ref slv]) (v := .int (cv - p0)) h4 iX7_owe_7 tyX7 tyX7_ok nmX7 rfl 3 (by decide) rfl rfl rfl (Nat.le_of_ble_eq_true rfl) (by decide +kernel) dX7_owe_27 (fun H locs hw => ?_)
  obtain ⟨f5, ef5⟩ : ∃ z, z = fw_up f3 h0 (.inr (7, [.ref pv, .ref rv, .int kv, .int (cv - p0), .int (tv + p0), .int (ev + p0), .ref shv, .ref slv])) := ⟨_, rfl⟩
  have hw : fw_S D A s.heap f5 H locs := by rw [ef5]; exact hw
  have h6 : f5 h0 = some (.inr (7, [.ref pv, .ref rv, .int kv, .int (cv - p0), .int (tv + p0), .int (ev + p0), .ref shv, .ref slv])) := by rw [ef5]; exact fw_up_s
  exact fw_vret hx hb hr hlocks hw (Nat.le_of_ble_eq_true rfl) (Nat.le_of_ble_eq_true rfl) dX7_owe_30 (by rw [ef5, ef3, ef1]; simp only [fw_up_up])
