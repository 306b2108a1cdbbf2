theorem iX3_inWeek_3 : ∀ w ∈ wsX30, w ∈ wsX3_inWeek := by decide +kernel
set_option maxHeartbeats 4000000 in
set_option maxRecDepth 100000 in
/-- Rule.inWeek -/
theorem c_X3_inWeek (l : Launch) (D : va_G) (A : Nat → Prop) (y : Nat → ClassId) (sa : Nat → Nat) (f : fw_F) (h0 v t w : Nat) (g : Nat → Int32) (hw31 : w < 31) (hf : f h0 = some (.inr (3, [.ref v, .ref t]))) (hv : f v = some (.inl (y 0, 31, .inl g))) : Met l yX3_inWeek wsX3_inWeek ({ frames := 0, cells := 0, slots := 0, locals := 0 } : Room) (cPc D A y sa f [.ref h0, .int (nI w)]) (cQi D A (fun r f1 => r = g w ∧ f1 = f)) 0 0 A := by
  refine fw_met (by decide) rfl [.ref h0, .int (nI w)] (Nat.le_of_ble_eq_true rfl) ?_
  intro p e s m args below meth c ls I hin hE hw hl
  obtain ⟨hx, hb, hr, hts, hown, hlocks, hml⟩ := I
  have hown : s.vm.findClass RX3 = some m.cls := hown
  have hl : lv_has ls 2 [(0, .ref h0), (1, .int (nI w))] := hl
  refine lv_iload_n hx hb dX3_inWeek_0 rfl (lv_at hl 1 rfl) ?_
  refine lv_if_lt (tgt := 22) hx hb dX3_inWeek_1 (by decide) (fun c_1 => ?_) (fun c_1 => ?_)
  · exact absurd c_1 (nI_pos (by omega))
  · refine lv_iload_n hx hb dX3_inWeek_4 rfl (lv_at hl 1 rfl) ?_
    refine lv_aload_n hx hb dX3_inWeek_5 rfl (lv_at hl 0 rfl) ?_
    refine fw_get hx hb hts hown hE.1.1 hw (ci := 3) (fs := [.ref v, .ref t]) (v := .ref v) hf iX3_inWeek_3 rfl 0 (by decide) rfl (by decide +kernel) dX3_inWeek_6 ?_
    refine fw_alen hx hb hE.1.1 hw hv 0 rfl (v := 31) rfl dX3_inWeek_9 ?_
    refine lv_icmp_ge (tgt := 22) hx hb dX3_inWeek_10 (by decide) (fun c_2 => ?_) (fun c_2 => ?_)
    · exact absurd c_2 (nI_ge (b := 31) hw31 (by decide))
    · refine lv_aload_n hx hb dX3_inWeek_13 rfl (lv_at hl 0 rfl) ?_
      refine fw_get hx hb hts hown hE.1.1 hw (ci := 3) (fs := [.ref v, .ref t]) (v := .ref v) hf iX3_inWeek_3 rfl 0 (by decide) rfl (by decide +kernel) dX3_inWeek_14 ?_
      refine lv_iload_n hx hb dX3_inWeek_17 rfl (lv_at hl 1 rfl) ?_
      refine fw_iald hx hb hE.1.1 hw (g := g) hv 0 rfl (vp_in_nI (by omega) (by decide)) dX3_inWeek_18 ?_
      rw [nI_clamp (n := w) (by omega)]
      refine lv_goto (tgt := 23) hx hb dX3_inWeek_19 (by decide) ?_
      exact fw_iret hx hb hr hlocks hw (Nat.le_of_ble_eq_true rfl) (Nat.le_of_ble_eq_true rfl) dX3_inWeek_23 (⟨rfl, rfl⟩)

theorem iX3_tell_3 : ∀ w ∈ wsX30, w ∈ wsX3_tell := by decide +kernel
set_option maxHeartbeats 4000000 in
set_option maxRecDepth 100000 in
/-- Rule.tell -/
theorem c_X3_tell (l : Launch) (D : va_G) (A : Nat → Prop) (y : Nat → ClassId) (sa : Nat → Nat) (f : fw_F) (h0 v t w : Nat) (g td : Nat → Int32) (p1 : Int32) (hw31 : w < 31) (nhv : h0 ≠ v) (nht : h0 ≠ t) (nvt : v ≠ t) (hf : f h0 = some (.inr (3, [.ref v, .ref t]))) (hv : f v = some (.inl (y 0, 31, .inl g))) (ht : f t = some (.inl (y 1, 31, .inl td))) : Met l yX3_tell wsX3_tell ({ frames := 0, cells := 0, slots := 0, locals := 0 } : Room) (cPc D A y sa f [.ref h0, .int (nI w), .int p1]) (cQv D A (fun f1 => f1 = fw_up (fw_up f t (.inl (y 1, 31, .inl (va_up td w 1)))) v (.inl (y 0, 31, .inl (tlV (va_up td w 1) p1 (30 - w) (w + 1) (va_up g w p1)))))) 0 0 A := by
  refine fw_met (by decide) rfl [.ref h0, .int (nI w), .int p1] (Nat.le_of_ble_eq_true rfl) ?_
  intro p e s m args below meth c ls I hin hE hw hl
  obtain ⟨hx, hb, hr, hts, hown, hlocks, hml⟩ := I
  have hown : s.vm.findClass RX3 = some m.cls := hown
  have hl : lv_has ls 4 [(0, .ref h0), (1, .int (nI w)), (2, .int p1)] := hl
  refine lv_iload_n hx hb dX3_tell_0 rfl (lv_at hl 1 rfl) ?_
  refine lv_if_lt (tgt := 22) hx hb dX3_tell_1 (by decide) (fun c_1 => ?_) (fun c_1 => ?_)
  · exact absurd c_1 (nI_pos (by omega))
  · refine lv_iload_n hx hb dX3_tell_4 rfl (lv_at hl 1 rfl) ?_
    refine lv_aload_n hx hb dX3_tell_5 rfl (lv_at hl 0 rfl) ?_
    refine fw_get hx hb hts hown hE.1.1 hw (ci := 3) (fs := [.ref v, .ref t]) (v := .ref v) hf iX3_tell_3 rfl 0 (by decide) rfl (by decide +kernel) dX3_tell_6 ?_
    refine fw_alen hx hb hE.1.1 hw hv 0 rfl (v := 31) rfl dX3_tell_9 ?_
    refine lv_icmp_ge (tgt := 22) hx hb dX3_tell_10 (by decide) (fun c_2 => ?_) (fun c_2 => ?_)
    · exact absurd c_2 (nI_ge (b := 31) hw31 (by decide))
    · refine lv_iload_n hx hb dX3_tell_13 rfl (lv_at hl 1 rfl) ?_
      refine lv_aload_n hx hb dX3_tell_14 rfl (lv_at hl 0 rfl) ?_
      refine fw_get hx hb hts hown hE.1.1 hw (ci := 3) (fs := [.ref v, .ref t]) (v := .ref t) hf iX3_tell_3 rfl 1 (by decide) rfl (by decide +kernel) dX3_tell_15 ?_
      refine fw_alen hx hb hE.1.1 hw ht 1 rfl (v := 31) rfl dX3_tell_18 ?_
      refine lv_icmp_lt (tgt := 23) hx hb dX3_tell_19 (by decide) (fun c_3 => ?_) (fun c_3 => ?_)
      · refine lv_aload_n hx hb dX3_tell_23 rfl (lv_at hl 0 rfl) ?_
        refine fw_get hx hb hts hown hE.1.1 hw (ci := 3) (fs := [.ref v, .ref t]) (v := .ref t) hf iX3_tell_3 rfl 1 (by decide) rfl (by decide +kernel) dX3_tell_24 ?_
        refine lv_iload_n hx hb dX3_tell_27 rfl (lv_at hl 1 rfl) ?_
        refine lv_iconst (v := 1) hx hb dX3_tell_28 (by decide) ?_
        refine fw_zast hx hb hE.1.1 hw (g := td) ht 1 rfl (vp_in_nI (by omega) (by decide)) (by decide +kernel) dX3_tell_29 (fun H locs hw => ?_)
        rw [nI_clamp (n := w) (by omega)] at hw
        obtain ⟨f4, ef4⟩ : ∃ z, z = fw_up f t (.inl (y 1, 31, .inl (va_up td w 1))) := ⟨_, rfl⟩
        have hw : fw_S D A s.heap f4 H locs := by rw [ef4]; exact hw
        have h5 : f4 h0 = some (.inr (3, [.ref v, .ref t])) := by rw [ef4]; exact (fw_up_n nht).trans hf
        have h6 : f4 v = some (.inl (y 0, 31, .inl g)) := by rw [ef4]; exact (fw_up_n nvt).trans hv
        have h7 : f4 t = some (.inl (y 1, 31, .inl (va_up td w 1))) := by rw [ef4]; exact fw_up_s
        refine lv_aload_n hx hb dX3_tell_30 rfl (lv_at hl 0 rfl) ?_
        refine fw_get hx hb hts hown hE.1.1 hw (ci := 3) (fs := [.ref v, .ref t]) (v := .ref v) h5 iX3_tell_3 rfl 0 (by decide) rfl (by decide +kernel) dX3_tell_31 ?_
        refine lv_iload_n hx hb dX3_tell_34 rfl (lv_at hl 1 rfl) ?_
        refine lv_iload_n hx hb dX3_tell_35 rfl (lv_at hl 2 rfl) ?_
        refine fw_iast hx hb hE.1.1 hw (g := g) h6 0 rfl (vp_in_nI (by omega) (by decide)) dX3_tell_36 (fun H locs hw => ?_)
        rw [nI_clamp (n := w) (by omega)] at hw
        obtain ⟨f8, ef8⟩ : ∃ z, z = fw_up f4 v (.inl (y 0, 31, .inl (va_up g w p1))) := ⟨_, rfl⟩
        have hw : fw_S D A s.heap f8 H locs := by rw [ef8]; exact hw
        have h9 : f8 h0 = some (.inr (3, [.ref v, .ref t])) := by rw [ef8]; exact (fw_up_n nhv).trans h5
        have h10 : f8 t = some (.inl (y 1, 31, .inl (va_up td w 1))) := by rw [ef8]; exact (fw_up_n (Ne.symm nvt)).trans h7
        have h11 : f8 v = some (.inl (y 0, 31, .inl (va_up g w p1))) := by rw [ef8]; exact fw_up_s
        refine lv_iload_n hx hb dX3_tell_37 rfl (lv_at hl 1 rfl) ?_
        refine lv_iconst (v := 1) hx hb dX3_tell_38 (by decide) ?_
        refine lv_iadd hx hb dX3_tell_39 ?_
        refine lv_istore_n (lv' := [(3, .int ((nI w) + 1)), (0, .ref h0), (1, .int (nI w)), (2, .int p1)]) hx hb dX3_tell_40 rfl hl (by decide) rfl (fun ls hl => ?_)
        rw [ef8, ef4] at hw
        rw [nI_1] at hl
        refine fw_loop 41 4 (fun r : Nat × (Nat → Int32) => 31 - r.1) (fun r => w + 1 ≤ r.1 ∧ r.1 ≤ 31 ∧ tlV (va_up td w 1) p1 (31 - r.1) r.1 r.2 = tlV (va_up td w 1) p1 (30 - w) (w + 1) (va_up g w p1)) (fun r => fw_up (fw_up f t (.inl (y 1, 31, .inl (va_up td w 1)))) v (.inl (y 0, 31, .inl r.2))) (fun r => [(3, .int (nI r.1)), (0, .ref h0), (1, .int (nI w)), (2, .int p1)]) (fun r => []) (fun r => 0) (fun r => 0) (fun r H locs ls hP hw hl IH => ?_) (w + 1, va_up g w p1) H locs ls ⟨Nat.le_refl _, hw31, by rw [show 31 - (w + 1) = 30 - w by omega]⟩ hw (lv_sub hl [0, 1, 2, 3] rfl)
        obtain ⟨i, gg⟩ := r
        obtain ⟨hP1, hP2, hP3⟩ := hP
        skip
        try dsimp only at hw
        try dsimp only at hl
        try dsimp only at IH
        try dsimp only at ⊢
        dsimp only at hP1 hP2 hP3
        obtain ⟨fa, efa⟩ : ∃ z, z = fw_up (fw_up f t (.inl (y 1, 31, .inl (va_up td w 1)))) v (.inl (y 0, 31, .inl gg)) := ⟨_, rfl⟩
        rw [← efa] at hw
        have hfa : fa h0 = some (.inr (3, [.ref v, .ref t])) := by rw [efa, fw_up_n nhv, fw_up_n nht]; exact hf
        have hva : fa v = some (.inl (y 0, 31, .inl gg)) := by rw [efa]; exact fw_up_s
        have hta : fa t = some (.inl (y 1, 31, .inl (va_up td w 1))) := by rw [efa, fw_up_n (Ne.symm nvt)]; exact fw_up_s
        refine lv_iload_n hx hb dX3_tell_41 rfl (lv_at hl 0 rfl) ?_
        refine lv_aload_n hx hb dX3_tell_42 rfl (lv_at hl 1 rfl) ?_
        refine fw_get hx hb hts hown hE.1.1 hw (ci := 3) (fs := [.ref v, .ref t]) (v := .ref v) hfa iX3_tell_3 rfl 0 (by decide) rfl (by decide +kernel) dX3_tell_43 ?_
        refine fw_alen hx hb hE.1.1 hw hva 0 rfl (v := 31) rfl dX3_tell_46 ?_
        refine lv_icmp_ge (tgt := 82) hx hb dX3_tell_47 (by decide) (fun c_12 => ?_) (fun c_12 => ?_)
        · exact fw_vret hx hb hr hlocks hw (Nat.le_of_ble_eq_true rfl) (Nat.le_of_ble_eq_true rfl) dX3_tell_82 (by obtain rfl := nI_eqn (n := 31) c_12 hP2 (by decide); rw [efa, ← hP3]; rfl)
        · have hi31 : i < 31 := nI_hi (n := 31) c_12 (by omega)
          refine lv_iload_n hx hb dX3_tell_50 rfl (lv_at hl 0 rfl) ?_
          refine lv_aload_n hx hb dX3_tell_51 rfl (lv_at hl 1 rfl) ?_
          refine fw_get hx hb hts hown hE.1.1 hw (ci := 3) (fs := [.ref v, .ref t]) (v := .ref t) hfa iX3_tell_3 rfl 1 (by decide) rfl (by decide +kernel) dX3_tell_52 ?_
          refine fw_alen hx hb hE.1.1 hw hta 1 rfl (v := 31) rfl dX3_tell_55 ?_
          refine lv_icmp_ge (tgt := 82) hx hb dX3_tell_56 (by decide) (fun c_13 => ?_) (fun c_13 => ?_)
          · exact absurd c_13 (nI_ge (b := 31) hi31 (by decide))
          · refine lv_aload_n hx hb dX3_tell_59 rfl (lv_at hl 1 rfl) ?_
            refine fw_get hx hb hts hown hE.1.1 hw (ci := 3) (fs := [.ref v, .ref t]) (v := .ref t) hfa iX3_tell_3 rfl 1 (by decide) rfl (by decide +kernel) dX3_tell_60 ?_
            refine lv_iload_n hx hb dX3_tell_63 rfl (lv_at hl 0 rfl) ?_
            refine fw_zald hx hb hE.1.1 hw (g := (va_up td w 1)) hta 1 rfl (vp_in_nI (by omega) (by decide)) dX3_tell_64 ?_
            rw [nI_clamp (n := i) (by omega)]
            refine lv_if_eq (tgt := 69) hx hb dX3_tell_65 (by decide) (fun c_14 => ?_) (fun c_14 => ?_)
            · refine lv_aload_n hx hb dX3_tell_69 rfl (lv_at hl 1 rfl) ?_
              refine fw_get hx hb hts hown hE.1.1 hw (ci := 3) (fs := [.ref v, .ref t]) (v := .ref v) hfa iX3_tell_3 rfl 0 (by decide) rfl (by decide +kernel) dX3_tell_70 ?_
              refine lv_iload_n hx hb dX3_tell_73 rfl (lv_at hl 0 rfl) ?_
              refine lv_iload_n hx hb dX3_tell_74 rfl (lv_at hl 3 rfl) ?_
              refine fw_iast hx hb hE.1.1 hw (g := gg) hva 0 rfl (vp_in_nI (by omega) (by decide)) dX3_tell_75 (fun H locs hw => ?_)
              rw [nI_clamp (n := i) (by omega)] at hw
              obtain ⟨f15, ef15⟩ : ∃ z, z = fw_up fa v (.inl (y 0, 31, .inl (va_up gg i p1))) := ⟨_, rfl⟩
              have hw : fw_S D A s.heap f15 H locs := by rw [ef15]; exact hw
              have h16 : f15 h0 = some (.inr (3, [.ref v, .ref t])) := by rw [ef15]; exact (fw_up_n nhv).trans hfa
              have h17 : f15 t = some (.inl (y 1, 31, .inl (va_up td w 1))) := by rw [ef15]; exact (fw_up_n (Ne.symm nvt)).trans hta
              have h18 : f15 v = some (.inl (y 0, 31, .inl (va_up gg i p1))) := by rw [ef15]; exact fw_up_s
              refine lv_iinc (v := ((nI i) + 1)) (lv' := [(3, .int ((nI i) + 1)), (0, .ref h0), (1, .int (nI w)), (2, .int p1)]) hx hb dX3_tell_76 hl (k := 0) rfl rfl (by decide) rfl (fun ls hl => ?_)
              refine lv_goto (tgt := 41) hx hb dX3_tell_79 (by decide) ?_
              exact IH (i + 1, va_up gg i p1) _ _ _ (by dsimp only; omega) ⟨by dsimp only; omega, by dsimp only; omega, by dsimp only; rw [← hP3, show 31 - i = (31 - (i + 1)) + 1 by omega, tlV, if_pos c_14]⟩ (by dsimp only; rw [ef15, efa, fw_up_up] at hw; exact hw) (by dsimp only; rw [← nI_1]; exact lv_sub hl [0, 1, 2, 3] rfl)
            · exact fw_vret hx hb hr hlocks hw (Nat.le_of_ble_eq_true rfl) (Nat.le_of_ble_eq_true rfl) dX3_tell_68 (by rw [efa, ← hP3, show 31 - i = (31 - (i + 1)) + 1 by omega, tlV, if_neg c_14])
      · exact absurd (nI_lt (b := 31) hw31 (by decide)) c_3

theorem iX3_init_3 : ∀ w ∈ wsX30, w ∈ wsX3_init := by decide +kernel
set_option maxHeartbeats 4000000 in
set_option maxRecDepth 100000 in
/-- Rule(first) -/
theorem c_X3_init (l : Launch) (D : va_G) (A : Nat → Prop) (y : Nat → ClassId) (sa : Nat → Nat) (f : fw_F) (h0 : Nat) (p0 : Int32) (hf : f h0 = some (.inr (3, [.null, .null]))) : Met l yX3_init wsX3_init ({ frames := 1, cells := 2, slots := 62, locals := 22 } : Room) (cPc D A y sa f [.ref h0, .int p0]) (cQv D A (fun f1 => ∃ v t, f v = none ∧ f t = none ∧ v ≠ t ∧ f1 = fw_up (fw_up (fw_up f v (.inl (y 0, 31, .inl (fillv p0 31)))) t (.inl (y 1, 31, .inl (fun _ => 0)))) h0 (.inr (3, [.ref v, .ref t])))) 2 62 A := by
  refine fw_met (by decide) rfl [.ref h0, .int p0] (Nat.le_of_ble_eq_true rfl) ?_
  intro p e s m args below meth c ls I hin hE hw hl
  obtain ⟨hx, hb, hr, hts, hown, hlocks, hml⟩ := I
  have hown : s.vm.findClass RX3 = some m.cls := hown
  have hl : lv_has ls 3 [(0, .ref h0), (1, .int p0)] := hl
  refine lv_aload_n hx hb dX3_init_0 rfl (lv_at hl 0 rfl) ?_
  refine W.objInit hx hb hown (hts (.methodLink RX3 3 objectInit) (by decide +kernel)) (hts (.instanceMethod objectInit) (by decide +kernel)) (hts (.code objectInit ⟨#[0xb1]⟩ 1 none) (by decide +kernel)) rfl (by rw [hml]; exact hl.1) rfl dX3_init_1 (Nat.le_of_ble_eq_true rfl) (Nat.le_of_ble_eq_true rfl) ?_
  refine W.eq (g2 := F0 m 4 ls []) rfl ?_
  refine lv_aload_n hx hb dX3_init_4 rfl (lv_at hl 0 rfl) ?_
  refine lv_bipush (v := 31) hx hb dX3_init_5 (by decide) ?_
  refine fw_newI hx hb hts hE.1.1 hw hE.2.1 (by decide +kernel) 0 rfl (N := 31) (by decide) rfl (by decide) (Nat.le_of_ble_eq_true rfl) (Nat.le_of_ble_eq_true rfl) dX3_init_7 (fun q1 H hnq1 hw => ?_)
  have hbq1 : f q1 = none := hnq1
  have n2 : h0 ≠ q1 := fun z => absurd (hf.symm.trans ((congrArg f z).trans hnq1)) (by simp)
  obtain ⟨f3, ef3⟩ : ∃ z, z = fw_up f q1 (.inl (y 0, 31, .inl (fun _ => (0 : Int32)))) := ⟨_, rfl⟩
  have hw : fw_S D A s.heap f3 H [] := by rw [ef3]; exact hw
  have h4 : f3 h0 = some (.inr (3, [.null, .null])) := by rw [ef3]; exact (fw_up_n n2).trans hf
  have h5 : f3 q1 = some (.inl (y 0, 31, .inl (fun _ => (0 : Int32)))) := by rw [ef3]; exact fw_up_s
  refine fw_putF hx hb hts hown hE.1.1 hw (ci := 3) (fs := [.null, .null]) (v := .ref q1) h4 iX3_init_3 tyX3 tyX3_ok nmX3 rfl 0 (by decide) rfl (hin rfl) rfl rfl rfl (Nat.le_of_ble_eq_true rfl) (by decide +kernel) dX3_init_9 (fun H locs hw => ?_)
  obtain ⟨f6, ef6⟩ : ∃ z, z = fw_up f3 h0 (.inr (3, [.ref q1, .null])) := ⟨_, rfl⟩
  have hw : fw_S D A s.heap f6 H locs := by rw [ef6]; exact hw
  have h7 : f6 q1 = some (.inl (y 0, 31, .inl (fun _ => (0 : Int32)))) := by rw [ef6]; exact (fw_up_n (Ne.symm n2)).trans h5
  have h8 : f6 h0 = some (.inr (3, [.ref q1, .null])) := by rw [ef6]; exact fw_up_s
  refine lv_aload_n hx hb dX3_init_12 rfl (lv_at hl 0 rfl) ?_
  refine lv_bipush (v := 31) hx hb dX3_init_13 (by decide) ?_
  refine fw_newZ hx hb hts hE.1.1 hw hE.2.1 (by decide +kernel) 1 rfl (N := 31) (by decide) rfl (by decide) (Nat.le_of_ble_eq_true rfl) (Nat.le_of_ble_eq_true rfl) dX3_init_15 (fun q9 H hnq9 hw => ?_)
  have hbq9 : f q9 = none := by have z9 := hnq9; rw [ef6, ef3] at z9; exact (fw_up_o (fw_up_o z9))
  have n10 : q1 ≠ q9 := fun z => absurd (h7.symm.trans ((congrArg f6 z).trans hnq9)) (by simp)
  have n11 : h0 ≠ q9 := fun z => absurd (h8.symm.trans ((congrArg f6 z).trans hnq9)) (by simp)
  obtain ⟨f12, ef12⟩ : ∃ z, z = fw_up f6 q9 (.inl (y 1, 31, .inl (fun _ => (0 : Int32)))) := ⟨_, rfl⟩
  have hw : fw_S D A s.heap f12 H locs := by rw [ef12]; exact hw
  have h13 : f12 q1 = some (.inl (y 0, 31, .inl (fun _ => (0 : Int32)))) := by rw [ef12]; exact (fw_up_n n10).trans h7
  have h14 : f12 h0 = some (.inr (3, [.ref q1, .null])) := by rw [ef12]; exact (fw_up_n n11).trans h8
  have h15 : f12 q9 = some (.inl (y 1, 31, .inl (fun _ => (0 : Int32)))) := by rw [ef12]; exact fw_up_s
  refine fw_putF hx hb hts hown hE.1.1 hw (ci := 3) (fs := [.ref q1, .null]) (v := .ref q9) h14 iX3_init_3 tyX3 tyX3_ok nmX3 rfl 1 (by decide) rfl (hin rfl) rfl rfl rfl (Nat.le_of_ble_eq_true rfl) (by decide +kernel) dX3_init_17 (fun H locs hw => ?_)
  obtain ⟨f16, ef16⟩ : ∃ z, z = fw_up f12 h0 (.inr (3, [.ref q1, .ref q9])) := ⟨_, rfl⟩
  have hw : fw_S D A s.heap f16 H locs := by rw [ef16]; exact hw
  have h17 : f16 q1 = some (.inl (y 0, 31, .inl (fun _ => (0 : Int32)))) := by rw [ef16]; exact (fw_up_n (Ne.symm n2)).trans h13
  have h18 : f16 q9 = some (.inl (y 1, 31, .inl (fun _ => (0 : Int32)))) := by rw [ef16]; exact (fw_up_n (Ne.symm n11)).trans h15
  have h19 : f16 h0 = some (.inr (3, [.ref q1, .ref q9])) := by rw [ef16]; exact fw_up_s
  refine lv_iconst (v := 0) hx hb dX3_init_20 (by decide) ?_
  refine lv_istore_n (lv' := [(2, .int 0), (0, .ref h0), (1, .int p0)]) hx hb dX3_init_21 rfl hl (by decide) rfl (fun ls hl => ?_)
  have hw : fw_S D A s.heap (fw_up (fw_up (fw_up f q1 (.inl (y 0, 31, .inl (fillv p0 0)))) q9 (.inl (y 1, 31, .inl (fun _ => 0)))) h0 (.inr (3, [.ref q1, .ref q9]))) H locs := by rw [ef16, ef12, ef6, ef3, ← fillv_0 (v := p0)] at hw; rw [fw_up_c (a := h0) (b := q9) n11, fw_up_up] at hw; exact hw
  refine fw_loop 22 3 (fun r : Nat => 31 - r) (fun r => r ≤ 31) (fun r => fw_up (fw_up (fw_up f q1 (.inl (y 0, 31, .inl (fillv p0 r)))) q9 (.inl (y 1, 31, .inl (fun _ => 0)))) h0 (.inr (3, [.ref q1, .ref q9]))) (fun r => [(2, .int (nI r)), (0, .ref h0), (1, .int p0)]) (fun r => []) (fun r => 0 + 1 + 1) (fun r => 0 + 31 + 31) (fun i H locs ls hP hw hl IH => ?_) 0 H locs ls (by omega) hw (lv_sub hl [0, 1, 2] rfl)
  try dsimp only at hP
  try dsimp only at hw
  try dsimp only at hl
  try dsimp only at IH
  try dsimp only at ⊢
  obtain ⟨fa, efa⟩ : ∃ z, z = fw_up (fw_up (fw_up f q1 (.inl (y 0, 31, .inl (fillv p0 i)))) q9 (.inl (y 1, 31, .inl (fun _ => 0)))) h0 (.inr (3, [.ref q1, .ref q9])) := ⟨_, rfl⟩
  rw [← efa] at hw
  have hfa : fa h0 = some (.inr (3, [.ref q1, .ref q9])) := by rw [efa]; exact fw_up_s
  have hva : fa q1 = some (.inl (y 0, 31, .inl (fillv p0 i))) := by rw [efa, fw_up_n (Ne.symm n2), fw_up_n n10]; exact fw_up_s
  refine lv_iload_n hx hb dX3_init_22 rfl (lv_at hl 0 rfl) ?_
  refine lv_aload_n hx hb dX3_init_23 rfl (lv_at hl 1 rfl) ?_
  refine fw_get hx hb hts hown hE.1.1 hw (ci := 3) (fs := [.ref q1, .ref q9]) (v := .ref q1) hfa iX3_init_3 rfl 0 (by decide) rfl (by decide +kernel) dX3_init_24 ?_
  refine fw_alen hx hb hE.1.1 hw hva 0 rfl (v := 31) rfl dX3_init_27 ?_
  refine lv_icmp_ge (tgt := 44) hx hb dX3_init_28 (by decide) (fun c_20 => ?_) (fun c_20 => ?_)
  · exact fw_vret hx hb hr hlocks hw (Nat.le_of_ble_eq_true rfl) (Nat.le_of_ble_eq_true rfl) dX3_init_44 (by obtain rfl := nI_eqn (n := 31) c_20 hP (by decide); exact ⟨q1, q9, hbq1, hbq9, n10, efa⟩)
  · have hi31 : i < 31 := nI_hi (n := 31) c_20 (by omega)
    refine lv_aload_n hx hb dX3_init_31 rfl (lv_at hl 1 rfl) ?_
    refine fw_get hx hb hts hown hE.1.1 hw (ci := 3) (fs := [.ref q1, .ref q9]) (v := .ref q1) hfa iX3_init_3 rfl 0 (by decide) rfl (by decide +kernel) dX3_init_32 ?_
    refine lv_iload_n hx hb dX3_init_35 rfl (lv_at hl 0 rfl) ?_
    refine lv_iload_n hx hb dX3_init_36 rfl (lv_at hl 2 rfl) ?_
    refine fw_iast hx hb hE.1.1 hw (g := (fillv p0 i)) hva 0 rfl (vp_in_nI (by omega) (by decide)) dX3_init_37 (fun H locs hw => ?_)
    rw [nI_clamp (n := i) (by omega)] at hw
    obtain ⟨f21, ef21⟩ : ∃ z, z = fw_up fa q1 (.inl (y 0, 31, .inl (va_up (fillv p0 i) i p0))) := ⟨_, rfl⟩
    have hw : fw_S D A s.heap f21 H locs := by rw [ef21]; exact hw
    have h22 : f21 h0 = some (.inr (3, [.ref q1, .ref q9])) := by rw [ef21]; exact (fw_up_n n2).trans hfa
    have h23 : f21 q1 = some (.inl (y 0, 31, .inl (va_up (fillv p0 i) i p0))) := by rw [ef21]; exact fw_up_s
    refine lv_iinc (v := ((nI i) + 1)) (lv' := [(2, .int ((nI i) + 1)), (0, .ref h0), (1, .int p0)]) hx hb dX3_init_38 hl (k := 0) rfl rfl (by decide) rfl (fun ls hl => ?_)
    refine lv_goto (tgt := 22) hx hb dX3_init_41 (by decide) ?_
    exact IH (i + 1) _ _ _ (by omega) (by omega) (by rw [ef21, efa, fillv_s, fw_up_c (a := h0) (b := q1) n2, fw_up_c (a := q9) (b := q1) (Ne.symm n10), fw_up_up] at hw; exact hw) (by rw [← nI_1]; exact lv_sub hl [0, 1, 2] rfl)
