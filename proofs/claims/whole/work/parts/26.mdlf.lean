theorem iX9_init_9 : ∀ w ∈ wsX90, w ∈ wsX9_init := by decide +kernel
set_option maxHeartbeats 4000000 in
set_option maxRecDepth 100000 in
/-- the reference as it begins -/
theorem c_X9_init (l : Launch) (D : va_G) (A : Nat → Prop) (y : Nat → ClassId) (sa : Nat → Nat) (f : fw_F) (h0 : Nat) (hf : f h0 = some (.inr (9, [.int 0, .int 0, .int 0, .null, .null, .null, .null, .null, .null, .null, .null, .null, .null, .int 0, .null, .null, .null, .null, .int 0, .null, .null, .int 0, .null, .null, .null]))) : Met l yX9_init wsX9_init ({ frames := 1, cells := 19, slots := 2136, locals := 24 } : Room) (cPc D A y sa f [.ref h0]) (cQv D A (fun f1 => ∃ β : Nat → Nat, β 0 = h0 ∧ Rm y (muC 160) β f1)) 19 2136 A := by
  refine fw_met (by decide) rfl [.ref h0] (Nat.le_of_ble_eq_true rfl) ?_
  intro p e s m args below meth c ls I hin hE hw hl
  obtain ⟨hx, hb, hr, hts, hown, hlocks, hml⟩ := I
  have hown : s.vm.findClass RX9 = some m.cls := hown
  have hl : lv_has ls 2 [(0, .ref h0)] := hl
  refine lv_aload_n hx hb dX9_init_0 rfl (lv_at hl 0 rfl) ?_
  refine W.objInit hx hb hown (hts (.methodLink RX9 1 objectInit) (by decide +kernel)) (hts (.instanceMethod objectInit) (by decide +kernel)) (hts (.code objectInit ⟨#[0xb1]⟩ 1 none) (by decide +kernel)) rfl (by rw [hml]; exact hl.1) rfl dX9_init_1 (Nat.le_of_ble_eq_true rfl) (Nat.le_of_ble_eq_true rfl) ?_
  refine W.eq (g2 := F0 m 4 ls []) rfl ?_
  refine lv_aload_n hx hb dX9_init_4 rfl (lv_at hl 0 rfl) ?_
  refine lv_bipush (v := 8) hx hb dX9_init_5 (by decide) ?_
  refine fw_newI hx hb hts hE.1.1 hw hE.2.1 (by decide +kernel) 0 rfl (N := 8) (by decide) rfl (by decide) (Nat.le_of_ble_eq_true rfl) (Nat.le_of_ble_eq_true rfl) dX9_init_7 (fun q1 H hnq1 hw => ?_)
  have hbq1 : f q1 = none := hnq1
  have n2 : h0 ≠ q1 := fun z => absurd (hf.symm.trans ((congrArg f z).trans hnq1)) (by simp)
  obtain ⟨f3, ef3⟩ : ∃ z, z = fw_up f q1 (.inl (y 0, 8, .inl (fun _ => (0 : Int32)))) := ⟨_, rfl⟩
  have hw : fw_S D A s.heap f3 H [] := by rw [ef3]; exact hw
  have h4 : f3 h0 = some (.inr (9, [.int 0, .int 0, .int 0, .null, .null, .null, .null, .null, .null, .null, .null, .null, .null, .int 0, .null, .null, .null, .null, .int 0, .null, .null, .int 0, .null, .null, .null])) := by rw [ef3]; exact (fw_up_n n2).trans hf
  have h5 : f3 q1 = some (.inl (y 0, 8, .inl (fun _ => (0 : Int32)))) := by rw [ef3]; exact fw_up_s
  refine fw_putF hx hb hts hown hE.1.1 hw (ci := 9) (fs := [.int 0, .int 0, .int 0, .null, .null, .null, .null, .null, .null, .null, .null, .null, .null, .int 0, .null, .null, .null, .null, .int 0, .null, .null, .int 0, .null, .null, .null]) (v := .ref q1) h4 iX9_init_9 tyX9 tyX9_ok nmX9 rfl 3 (by decide) rfl (hin rfl) rfl rfl rfl (Nat.le_of_ble_eq_true rfl) (by decide +kernel) dX9_init_9 (fun H locs hw => ?_)
  obtain ⟨f6, ef6⟩ : ∃ z, z = fw_up f3 h0 (.inr (9, [.int 0, .int 0, .int 0, .ref q1, .null, .null, .null, .null, .null, .null, .null, .null, .null, .int 0, .null, .null, .null, .null, .int 0, .null, .null, .int 0, .null, .null, .null])) := ⟨_, rfl⟩
  have hw : fw_S D A s.heap f6 H locs := by rw [ef6]; exact hw
  have h7 : f6 q1 = some (.inl (y 0, 8, .inl (fun _ => (0 : Int32)))) := by rw [ef6]; exact (fw_up_n (Ne.symm n2)).trans h5
  have h8 : f6 h0 = some (.inr (9, [.int 0, .int 0, .int 0, .ref q1, .null, .null, .null, .null, .null, .null, .null, .null, .null, .int 0, .null, .null, .null, .null, .int 0, .null, .null, .int 0, .null, .null, .null])) := by rw [ef6]; exact fw_up_s
  refine lv_aload_n hx hb dX9_init_12 rfl (lv_at hl 0 rfl) ?_
  refine lv_sipush (v := 248) hx hb dX9_init_13 (by decide) ?_
  refine fw_newI hx hb hts hE.1.1 hw hE.2.1 (by decide +kernel) 0 rfl (N := 248) (by decide) rfl (by decide) (Nat.le_of_ble_eq_true rfl) (Nat.le_of_ble_eq_true rfl) dX9_init_16 (fun q9 H hnq9 hw => ?_)
  have hbq9 : f q9 = none := by have z9 := hnq9; rw [ef6, ef3] at z9; exact (fw_up_o (fw_up_o z9))
  have n10 : q1 ≠ q9 := fun z => absurd (h7.symm.trans ((congrArg f6 z).trans hnq9)) (by simp)
  have n11 : h0 ≠ q9 := fun z => absurd (h8.symm.trans ((congrArg f6 z).trans hnq9)) (by simp)
  obtain ⟨f12, ef12⟩ : ∃ z, z = fw_up f6 q9 (.inl (y 0, 248, .inl (fun _ => (0 : Int32)))) := ⟨_, rfl⟩
  have hw : fw_S D A s.heap f12 H locs := by rw [ef12]; exact hw
  have h13 : f12 q1 = some (.inl (y 0, 8, .inl (fun _ => (0 : Int32)))) := by rw [ef12]; exact (fw_up_n n10).trans h7
  have h14 : f12 h0 = some (.inr (9, [.int 0, .int 0, .int 0, .ref q1, .null, .null, .null, .null, .null, .null, .null, .null, .null, .int 0, .null, .null, .null, .null, .int 0, .null, .null, .int 0, .null, .null, .null])) := by rw [ef12]; exact (fw_up_n n11).trans h8
  have h15 : f12 q9 = some (.inl (y 0, 248, .inl (fun _ => (0 : Int32)))) := by rw [ef12]; exact fw_up_s
  refine fw_putF hx hb hts hown hE.1.1 hw (ci := 9) (fs := [.int 0, .int 0, .int 0, .ref q1, .null, .null, .null, .null, .null, .null, .null, .null, .null, .int 0, .null, .null, .null, .null, .int 0, .null, .null, .int 0, .null, .null, .null]) (v := .ref q9) h14 iX9_init_9 tyX9 tyX9_ok nmX9 rfl 4 (by decide) rfl (hin rfl) rfl rfl rfl (Nat.le_of_ble_eq_true rfl) (by decide +kernel) dX9_init_18 (fun H locs hw => ?_)
  obtain ⟨f16, ef16⟩ : ∃ z, z = fw_up f12 h0 (.inr (9, [.int 0, .int 0, .int 0, .ref q1, .ref q9, .null, .null, .null, .null, .null, .null, .null, .null, .int 0, .null, .null, .null, .null, .int 0, .null, .null, .int 0, .null, .null, .null])) := ⟨_, rfl⟩
  have hw : fw_S D A s.heap f16 H locs := by rw [ef16]; exact hw
  have h17 : f16 q1 = some (.inl (y 0, 8, .inl (fun _ => (0 : Int32)))) := by rw [ef16]; exact (fw_up_n (Ne.symm n2)).trans h13
  have h18 : f16 q9 = some (.inl (y 0, 248, .inl (fun _ => (0 : Int32)))) := by rw [ef16]; exact (fw_up_n (Ne.symm n11)).trans h15
  have h19 : f16 h0 = some (.inr (9, [.int 0, .int 0, .int 0, .ref q1, .ref q9, .null, .null, .null, .null, .null, .null, .null, .null, .int 0, .null, .null, .null, .null, .int 0, .null, .null, .int 0, .null, .null, .null])) := by rw [ef16]; exact fw_up_s
  refine lv_aload_n hx hb dX9_init_21 rfl (lv_at hl 0 rfl) ?_
  refine lv_bipush (v := 93) hx hb dX9_init_22 (by decide) ?_
  refine fw_newI hx hb hts hE.1.1 hw hE.2.1 (by decide +kernel) 0 rfl (N := 93) (by decide) rfl (by decide) (Nat.le_of_ble_eq_true rfl) (Nat.le_of_ble_eq_true rfl) dX9_init_24 (fun q20 H hnq20 hw => ?_)
  have hbq20 : f q20 = none := by have z9 := hnq20; rw [ef16, ef12, ef6, ef3] at z9; exact (fw_up_o (fw_up_o (fw_up_o (fw_up_o z9))))
  have n21 : q1 ≠ q20 := fun z => absurd (h17.symm.trans ((congrArg f16 z).trans hnq20)) (by simp)
  have n22 : q9 ≠ q20 := fun z => absurd (h18.symm.trans ((congrArg f16 z).trans hnq20)) (by simp)
  have n23 : h0 ≠ q20 := fun z => absurd (h19.symm.trans ((congrArg f16 z).trans hnq20)) (by simp)
  obtain ⟨f24, ef24⟩ : ∃ z, z = fw_up f16 q20 (.inl (y 0, 93, .inl (fun _ => (0 : Int32)))) := ⟨_, rfl⟩
  have hw : fw_S D A s.heap f24 H locs := by rw [ef24]; exact hw
  have h25 : f24 q1 = some (.inl (y 0, 8, .inl (fun _ => (0 : Int32)))) := by rw [ef24]; exact (fw_up_n n21).trans h17
  have h26 : f24 q9 = some (.inl (y 0, 248, .inl (fun _ => (0 : Int32)))) := by rw [ef24]; exact (fw_up_n n22).trans h18
  have h27 : f24 h0 = some (.inr (9, [.int 0, .int 0, .int 0, .ref q1, .ref q9, .null, .null, .null, .null, .null, .null, .null, .null, .int 0, .null, .null, .null, .null, .int 0, .null, .null, .int 0, .null, .null, .null])) := by rw [ef24]; exact (fw_up_n n23).trans h19
  have h28 : f24 q20 = some (.inl (y 0, 93, .inl (fun _ => (0 : Int32)))) := by rw [ef24]; exact fw_up_s
  refine fw_putF hx hb hts hown hE.1.1 hw (ci := 9) (fs := [.int 0, .int 0, .int 0, .ref q1, .ref q9, .null, .null, .null, .null, .null, .null, .null, .null, .int 0, .null, .null, .null, .null, .int 0, .null, .null, .int 0, .null, .null, .null]) (v := .ref q20) h27 iX9_init_9 tyX9 tyX9_ok nmX9 rfl 5 (by decide) rfl (hin rfl) rfl rfl rfl (Nat.le_of_ble_eq_true rfl) (by decide +kernel) dX9_init_26 (fun H locs hw => ?_)
  obtain ⟨f29, ef29⟩ : ∃ z, z = fw_up f24 h0 (.inr (9, [.int 0, .int 0, .int 0, .ref q1, .ref q9, .ref q20, .null, .null, .null, .null, .null, .null, .null, .int 0, .null, .null, .null, .null, .int 0, .null, .null, .int 0, .null, .null, .null])) := ⟨_, rfl⟩
  have hw : fw_S D A s.heap f29 H locs := by rw [ef29]; exact hw
  have h30 : f29 q1 = some (.inl (y 0, 8, .inl (fun _ => (0 : Int32)))) := by rw [ef29]; exact (fw_up_n (Ne.symm n2)).trans h25
  have h31 : f29 q9 = some (.inl (y 0, 248, .inl (fun _ => (0 : Int32)))) := by rw [ef29]; exact (fw_up_n (Ne.symm n11)).trans h26
  have h32 : f29 q20 = some (.inl (y 0, 93, .inl (fun _ => (0 : Int32)))) := by rw [ef29]; exact (fw_up_n (Ne.symm n23)).trans h28
  have h33 : f29 h0 = some (.inr (9, [.int 0, .int 0, .int 0, .ref q1, .ref q9, .ref q20, .null, .null, .null, .null, .null, .null, .null, .int 0, .null, .null, .null, .null, .int 0, .null, .null, .int 0, .null, .null, .null])) := by rw [ef29]; exact fw_up_s
  refine lv_aload_n hx hb dX9_init_29 rfl (lv_at hl 0 rfl) ?_
  refine lv_bipush (v := 93) hx hb dX9_init_30 (by decide) ?_
  refine fw_newI hx hb hts hE.1.1 hw hE.2.1 (by decide +kernel) 0 rfl (N := 93) (by decide) rfl (by decide) (Nat.le_of_ble_eq_true rfl) (Nat.le_of_ble_eq_true rfl) dX9_init_32 (fun q34 H hnq34 hw => ?_)
  have hbq34 : f q34 = none := by have z9 := hnq34; rw [ef29, ef24, ef16, ef12, ef6, ef3] at z9; exact (fw_up_o (fw_up_o (fw_up_o (fw_up_o (fw_up_o (fw_up_o z9))))))
  have n35 : q1 ≠ q34 := fun z => absurd (h30.symm.trans ((congrArg f29 z).trans hnq34)) (by simp)
  have n36 : q9 ≠ q34 := fun z => absurd (h31.symm.trans ((congrArg f29 z).trans hnq34)) (by simp)
  have n37 : q20 ≠ q34 := fun z => absurd (h32.symm.trans ((congrArg f29 z).trans hnq34)) (by simp)
  have n38 : h0 ≠ q34 := fun z => absurd (h33.symm.trans ((congrArg f29 z).trans hnq34)) (by simp)
  obtain ⟨f39, ef39⟩ : ∃ z, z = fw_up f29 q34 (.inl (y 0, 93, .inl (fun _ => (0 : Int32)))) := ⟨_, rfl⟩
  have hw : fw_S D A s.heap f39 H locs := by rw [ef39]; exact hw
  have h40 : f39 q1 = some (.inl (y 0, 8, .inl (fun _ => (0 : Int32)))) := by rw [ef39]; exact (fw_up_n n35).trans h30
  have h41 : f39 q9 = some (.inl (y 0, 248, .inl (fun _ => (0 : Int32)))) := by rw [ef39]; exact (fw_up_n n36).trans h31
  have h42 : f39 q20 = some (.inl (y 0, 93, .inl (fun _ => (0 : Int32)))) := by rw [ef39]; exact (fw_up_n n37).trans h32
  have h43 : f39 h0 = some (.inr (9, [.int 0, .int 0, .int 0, .ref q1, .ref q9, .ref q20, .null, .null, .null, .null, .null, .null, .null, .int 0, .null, .null, .null, .null, .int 0, .null, .null, .int 0, .null, .null, .null])) := by rw [ef39]; exact (fw_up_n n38).trans h33
  have h44 : f39 q34 = some (.inl (y 0, 93, .inl (fun _ => (0 : Int32)))) := by rw [ef39]; exact fw_up_s
  refine fw_putF hx hb hts hown hE.1.1 hw (ci := 9) (fs := [.int 0, .int 0, .int 0, .ref q1, .ref q9, .ref q20, .null, .null, .null, .null, .null, .null, .null, .int 0, .null, .null, .null, .null, .int 0, .null, .null, .int 0, .null, .null, .null]) (v := .ref q34) h43 iX9_init_9 tyX9 tyX9_ok nmX9 rfl 6 (by decide) rfl (hin rfl) rfl rfl rfl (Nat.le_of_ble_eq_true rfl) (by decide +kernel) dX9_init_34 (fun H locs hw => ?_)
  obtain ⟨f45, ef45⟩ : ∃ z, z = fw_up f39 h0 (.inr (9, [.int 0, .int 0, .int 0, .ref q1, .ref q9, .ref q20, .ref q34, .null, .null, .null, .null, .null, .null, .int 0, .null, .null, .null, .null, .int 0, .null, .null, .int 0, .null, .null, .null])) := ⟨_, rfl⟩
  have hw : fw_S D A s.heap f45 H locs := by rw [ef45]; exact hw
  have h46 : f45 q1 = some (.inl (y 0, 8, .inl (fun _ => (0 : Int32)))) := by rw [ef45]; exact (fw_up_n (Ne.symm n2)).trans h40
  have h47 : f45 q9 = some (.inl (y 0, 248, .inl (fun _ => (0 : Int32)))) := by rw [ef45]; exact (fw_up_n (Ne.symm n11)).trans h41
  have h48 : f45 q20 = some (.inl (y 0, 93, .inl (fun _ => (0 : Int32)))) := by rw [ef45]; exact (fw_up_n (Ne.symm n23)).trans h42
  have h49 : f45 q34 = some (.inl (y 0, 93, .inl (fun _ => (0 : Int32)))) := by rw [ef45]; exact (fw_up_n (Ne.symm n38)).trans h44
  have h50 : f45 h0 = some (.inr (9, [.int 0, .int 0, .int 0, .ref q1, .ref q9, .ref q20, .ref q34, .null, .null, .null, .null, .null, .null, .int 0, .null, .null, .null, .null, .int 0, .null, .null, .int 0, .null, .null, .null])) := by rw [ef45]; exact fw_up_s
  refine lv_aload_n hx hb dX9_init_37 rfl (lv_at hl 0 rfl) ?_
  refine lv_sipush (v := 160) hx hb dX9_init_38 (by decide) ?_
  refine fw_newI hx hb hts hE.1.1 hw hE.2.1 (by decide +kernel) 0 rfl (N := 160) (by decide) rfl (by decide) (Nat.le_of_ble_eq_true rfl) (Nat.le_of_ble_eq_true rfl) dX9_init_41 (fun q51 H hnq51 hw => ?_)
  have hbq51 : f q51 = none := by have z9 := hnq51; rw [ef45, ef39, ef29, ef24, ef16, ef12, ef6, ef3] at z9; exact (fw_up_o (fw_up_o (fw_up_o (fw_up_o (fw_up_o (fw_up_o (fw_up_o (fw_up_o z9))))))))
  have n52 : q1 ≠ q51 := fun z => absurd (h46.symm.trans ((congrArg f45 z).trans hnq51)) (by simp)
  have n53 : q9 ≠ q51 := fun z => absurd (h47.symm.trans ((congrArg f45 z).trans hnq51)) (by simp)
  have n54 : q20 ≠ q51 := fun z => absurd (h48.symm.trans ((congrArg f45 z).trans hnq51)) (by simp)
  have n55 : q34 ≠ q51 := fun z => absurd (h49.symm.trans ((congrArg f45 z).trans hnq51)) (by simp)
  have n56 : h0 ≠ q51 := fun z => absurd (h50.symm.trans ((congrArg f45 z).trans hnq51)) (by simp)
  obtain ⟨f57, ef57⟩ : ∃ z, z = fw_up f45 q51 (.inl (y 0, 160, .inl (fun _ => (0 : Int32)))) := ⟨_, rfl⟩
  have hw : fw_S D A s.heap f57 H locs := by rw [ef57]; exact hw
  have h58 : f57 q1 = some (.inl (y 0, 8, .inl (fun _ => (0 : Int32)))) := by rw [ef57]; exact (fw_up_n n52).trans h46
  have h59 : f57 q9 = some (.inl (y 0, 248, .inl (fun _ => (0 : Int32)))) := by rw [ef57]; exact (fw_up_n n53).trans h47
  have h60 : f57 q20 = some (.inl (y 0, 93, .inl (fun _ => (0 : Int32)))) := by rw [ef57]; exact (fw_up_n n54).trans h48
  have h61 : f57 q34 = some (.inl (y 0, 93, .inl (fun _ => (0 : Int32)))) := by rw [ef57]; exact (fw_up_n n55).trans h49
  have h62 : f57 h0 = some (.inr (9, [.int 0, .int 0, .int 0, .ref q1, .ref q9, .ref q20, .ref q34, .null, .null, .null, .null, .null, .null, .int 0, .null, .null, .null, .null, .int 0, .null, .null, .int 0, .null, .null, .null])) := by rw [ef57]; exact (fw_up_n n56).trans h50
  have h63 : f57 q51 = some (.inl (y 0, 160, .inl (fun _ => (0 : Int32)))) := by rw [ef57]; exact fw_up_s
  refine fw_putF hx hb hts hown hE.1.1 hw (ci := 9) (fs := [.int 0, .int 0, .int 0, .ref q1, .ref q9, .ref q20, .ref q34, .null, .null, .null, .null, .null, .null, .int 0, .null, .null, .null, .null, .int 0, .null, .null, .int 0, .null, .null, .null]) (v := .ref q51) h62 iX9_init_9 tyX9 tyX9_ok nmX9 rfl 7 (by decide) rfl (hin rfl) rfl rfl rfl (Nat.le_of_ble_eq_true rfl) (by decide +kernel) dX9_init_43 (fun H locs hw => ?_)
  obtain ⟨f64, ef64⟩ : ∃ z, z = fw_up f57 h0 (.inr (9, [.int 0, .int 0, .int 0, .ref q1, .ref q9, .ref q20, .ref q34, .ref q51, .null, .null, .null, .null, .null, .int 0, .null, .null, .null, .null, .int 0, .null, .null, .int 0, .null, .null, .null])) := ⟨_, rfl⟩
  have hw : fw_S D A s.heap f64 H locs := by rw [ef64]; exact hw
  have h65 : f64 q1 = some (.inl (y 0, 8, .inl (fun _ => (0 : Int32)))) := by rw [ef64]; exact (fw_up_n (Ne.symm n2)).trans h58
  have h66 : f64 q9 = some (.inl (y 0, 248, .inl (fun _ => (0 : Int32)))) := by rw [ef64]; exact (fw_up_n (Ne.symm n11)).trans h59
  have h67 : f64 q20 = some (.inl (y 0, 93, .inl (fun _ => (0 : Int32)))) := by rw [ef64]; exact (fw_up_n (Ne.symm n23)).trans h60
  have h68 : f64 q34 = some (.inl (y 0, 93, .inl (fun _ => (0 : Int32)))) := by rw [ef64]; exact (fw_up_n (Ne.symm n38)).trans h61
  have h69 : f64 q51 = some (.inl (y 0, 160, .inl (fun _ => (0 : Int32)))) := by rw [ef64]; exact (fw_up_n (Ne.symm n56)).trans h63
  have h70 : f64 h0 = some (.inr (9, [.int 0, .int 0, .int 0, .ref q1, .ref q9, .ref q20, .ref q34, .ref q51, .null, .null, .null, .null, .null, .int 0, .null, .null, .null, .null, .int 0, .null, .null, .int 0, .null, .null, .null])) := by rw [ef64]; exact fw_up_s
  refine lv_aload_n hx hb dX9_init_46 rfl (lv_at hl 0 rfl) ?_
  refine lv_sipush (v := 160) hx hb dX9_init_47 (by decide) ?_
  refine fw_newI hx hb hts hE.1.1 hw hE.2.1 (by decide +kernel) 0 rfl (N := 160) (by decide) rfl (by decide) (Nat.le_of_ble_eq_true rfl) (Nat.le_of_ble_eq_true rfl) dX9_init_50 (fun q71 H hnq71 hw => ?_)
  have hbq71 : f q71 = none := by have z9 := hnq71; rw [ef64, ef57, ef45, ef39, ef29, ef24, ef16, ef12, ef6, ef3] at z9; exact (fw_up_o (fw_up_o (fw_up_o (fw_up_o (fw_up_o (fw_up_o (fw_up_o (fw_up_o (fw_up_o (fw_up_o z9))))))))))
  have n72 : q1 ≠ q71 := fun z => absurd (h65.symm.trans ((congrArg f64 z).trans hnq71)) (by simp)
  have n73 : q9 ≠ q71 := fun z => absurd (h66.symm.trans ((congrArg f64 z).trans hnq71)) (by simp)
  have n74 : q20 ≠ q71 := fun z => absurd (h67.symm.trans ((congrArg f64 z).trans hnq71)) (by simp)
  have n75 : q34 ≠ q71 := fun z => absurd (h68.symm.trans ((congrArg f64 z).trans hnq71)) (by simp)
  have n76 : q51 ≠ q71 := fun z => absurd (h69.symm.trans ((congrArg f64 z).trans hnq71)) (by simp)
  have n77 : h0 ≠ q71 := fun z => absurd (h70.symm.trans ((congrArg f64 z).trans hnq71)) (by simp)
  obtain ⟨f78, ef78⟩ : ∃ z, z = fw_up f64 q71 (.inl (y 0, 160, .inl (fun _ => (0 : Int32)))) := ⟨_, rfl⟩
  have hw : fw_S D A s.heap f78 H locs := by rw [ef78]; exact hw
  have h79 : f78 q1 = some (.inl (y 0, 8, .inl (fun _ => (0 : Int32)))) := by rw [ef78]; exact (fw_up_n n72).trans h65
  have h80 : f78 q9 = some (.inl (y 0, 248, .inl (fun _ => (0 : Int32)))) := by rw [ef78]; exact (fw_up_n n73).trans h66
  have h81 : f78 q20 = some (.inl (y 0, 93, .inl (fun _ => (0 : Int32)))) := by rw [ef78]; exact (fw_up_n n74).trans h67
  have h82 : f78 q34 = some (.inl (y 0, 93, .inl (fun _ => (0 : Int32)))) := by rw [ef78]; exact (fw_up_n n75).trans h68
  have h83 : f78 q51 = some (.inl (y 0, 160, .inl (fun _ => (0 : Int32)))) := by rw [ef78]; exact (fw_up_n n76).trans h69
  have h84 : f78 h0 = some (.inr (9, [.int 0, .int 0, .int 0, .ref q1, .ref q9, .ref q20, .ref q34, .ref q51, .null, .null, .null, .null, .null, .int 0, .null, .null, .null, .null, .int 0, .null, .null, .int 0, .null, .null, .null])) := by rw [ef78]; exact (fw_up_n n77).trans h70
  have h85 : f78 q71 = some (.inl (y 0, 160, .inl (fun _ => (0 : Int32)))) := by rw [ef78]; exact fw_up_s
  refine fw_putF hx hb hts hown hE.1.1 hw (ci := 9) (fs := [.int 0, .int 0, .int 0, .ref q1, .ref q9, .ref q20, .ref q34, .ref q51, .null, .null, .null, .null, .null, .int 0, .null, .null, .null, .null, .int 0, .null, .null, .int 0, .null, .null, .null]) (v := .ref q71) h84 iX9_init_9 tyX9 tyX9_ok nmX9 rfl 8 (by decide) rfl (hin rfl) rfl rfl rfl (Nat.le_of_ble_eq_true rfl) (by decide +kernel) dX9_init_52 (fun H locs hw => ?_)
  obtain ⟨f86, ef86⟩ : ∃ z, z = fw_up f78 h0 (.inr (9, [.int 0, .int 0, .int 0, .ref q1, .ref q9, .ref q20, .ref q34, .ref q51, .ref q71, .null, .null, .null, .null, .int 0, .null, .null, .null, .null, .int 0, .null, .null, .int 0, .null, .null, .null])) := ⟨_, rfl⟩
  have hw : fw_S D A s.heap f86 H locs := by rw [ef86]; exact hw
  have h87 : f86 q1 = some (.inl (y 0, 8, .inl (fun _ => (0 : Int32)))) := by rw [ef86]; exact (fw_up_n (Ne.symm n2)).trans h79
  have h88 : f86 q9 = some (.inl (y 0, 248, .inl (fun _ => (0 : Int32)))) := by rw [ef86]; exact (fw_up_n (Ne.symm n11)).trans h80
  have h89 : f86 q20 = some (.inl (y 0, 93, .inl (fun _ => (0 : Int32)))) := by rw [ef86]; exact (fw_up_n (Ne.symm n23)).trans h81
  have h90 : f86 q34 = some (.inl (y 0, 93, .inl (fun _ => (0 : Int32)))) := by rw [ef86]; exact (fw_up_n (Ne.symm n38)).trans h82
  have h91 : f86 q51 = some (.inl (y 0, 160, .inl (fun _ => (0 : Int32)))) := by rw [ef86]; exact (fw_up_n (Ne.symm n56)).trans h83
  have h92 : f86 q71 = some (.inl (y 0, 160, .inl (fun _ => (0 : Int32)))) := by rw [ef86]; exact (fw_up_n (Ne.symm n77)).trans h85
  have h93 : f86 h0 = some (.inr (9, [.int 0, .int 0, .int 0, .ref q1, .ref q9, .ref q20, .ref q34, .ref q51, .ref q71, .null, .null, .null, .null, .int 0, .null, .null, .null, .null, .int 0, .null, .null, .int 0, .null, .null, .null])) := by rw [ef86]; exact fw_up_s
  refine lv_aload_n hx hb dX9_init_55 rfl (lv_at hl 0 rfl) ?_
  refine lv_sipush (v := 160) hx hb dX9_init_56 (by decide) ?_
  refine fw_newI hx hb hts hE.1.1 hw hE.2.1 (by decide +kernel) 0 rfl (N := 160) (by decide) rfl (by decide) (Nat.le_of_ble_eq_true rfl) (Nat.le_of_ble_eq_true rfl) dX9_init_59 (fun q94 H hnq94 hw => ?_)
  have hbq94 : f q94 = none := by have z9 := hnq94; rw [ef86, ef78, ef64, ef57, ef45, ef39, ef29, ef24, ef16, ef12, ef6, ef3] at z9; exact (fw_up_o (fw_up_o (fw_up_o (fw_up_o (fw_up_o (fw_up_o (fw_up_o (fw_up_o (fw_up_o (fw_up_o (fw_up_o (fw_up_o z9))))))))))))
  have n95 : q1 ≠ q94 := fun z => absurd (h87.symm.trans ((congrArg f86 z).trans hnq94)) (by simp)
  have n96 : q9 ≠ q94 := fun z => absurd (h88.symm.trans ((congrArg f86 z).trans hnq94)) (by simp)
  have n97 : q20 ≠ q94 := fun z => absurd (h89.symm.trans ((congrArg f86 z).trans hnq94)) (by simp)
  have n98 : q34 ≠ q94 := fun z => absurd (h90.symm.trans ((congrArg f86 z).trans hnq94)) (by simp)
  have n99 : q51 ≠ q94 := fun z => absurd (h91.symm.trans ((congrArg f86 z).trans hnq94)) (by simp)
  have n100 : q71 ≠ q94 := fun z => absurd (h92.symm.trans ((congrArg f86 z).trans hnq94)) (by simp)
  have n101 : h0 ≠ q94 := fun z => absurd (h93.symm.trans ((congrArg f86 z).trans hnq94)) (by simp)
  obtain ⟨f102, ef102⟩ : ∃ z, z = fw_up f86 q94 (.inl (y 0, 160, .inl (fun _ => (0 : Int32)))) := ⟨_, rfl⟩
  have hw : fw_S D A s.heap f102 H locs := by rw [ef102]; exact hw
  have h103 : f102 q1 = some (.inl (y 0, 8, .inl (fun _ => (0 : Int32)))) := by rw [ef102]; exact (fw_up_n n95).trans h87
  have h104 : f102 q9 = some (.inl (y 0, 248, .inl (fun _ => (0 : Int32)))) := by rw [ef102]; exact (fw_up_n n96).trans h88
  have h105 : f102 q20 = some (.inl (y 0, 93, .inl (fun _ => (0 : Int32)))) := by rw [ef102]; exact (fw_up_n n97).trans h89
  have h106 : f102 q34 = some (.inl (y 0, 93, .inl (fun _ => (0 : Int32)))) := by rw [ef102]; exact (fw_up_n n98).trans h90
  have h107 : f102 q51 = some (.inl (y 0, 160, .inl (fun _ => (0 : Int32)))) := by rw [ef102]; exact (fw_up_n n99).trans h91
  have h108 : f102 q71 = some (.inl (y 0, 160, .inl (fun _ => (0 : Int32)))) := by rw [ef102]; exact (fw_up_n n100).trans h92
  have h109 : f102 h0 = some (.inr (9, [.int 0, .int 0, .int 0, .ref q1, .ref q9, .ref q20, .ref q34, .ref q51, .ref q71, .null, .null, .null, .null, .int 0, .null, .null, .null, .null, .int 0, .null, .null, .int 0, .null, .null, .null])) := by rw [ef102]; exact (fw_up_n n101).trans h93
  have h110 : f102 q94 = some (.inl (y 0, 160, .inl (fun _ => (0 : Int32)))) := by rw [ef102]; exact fw_up_s
  refine fw_putF hx hb hts hown hE.1.1 hw (ci := 9) (fs := [.int 0, .int 0, .int 0, .ref q1, .ref q9, .ref q20, .ref q34, .ref q51, .ref q71, .null, .null, .null, .null, .int 0, .null, .null, .null, .null, .int 0, .null, .null, .int 0, .null, .null, .null]) (v := .ref q94) h109 iX9_init_9 tyX9 tyX9_ok nmX9 rfl 9 (by decide) rfl (hin rfl) rfl rfl rfl (Nat.le_of_ble_eq_true rfl) (by decide +kernel) dX9_init_61 (fun H locs hw => ?_)
  obtain ⟨f111, ef111⟩ : ∃ z, z = fw_up f102 h0 (.inr (9, [.int 0, .int 0, .int 0, .ref q1, .ref q9, .ref q20, .ref q34, .ref q51, .ref q71, .ref q94, .null, .null, .null, .int 0, .null, .null, .null, .null, .int 0, .null, .null, .int 0, .null, .null, .null])) := ⟨_, rfl⟩
  have hw : fw_S D A s.heap f111 H locs := by rw [ef111]; exact hw
  have h112 : f111 q1 = some (.inl (y 0, 8, .inl (fun _ => (0 : Int32)))) := by rw [ef111]; exact (fw_up_n (Ne.symm n2)).trans h103
  have h113 : f111 q9 = some (.inl (y 0, 248, .inl (fun _ => (0 : Int32)))) := by rw [ef111]; exact (fw_up_n (Ne.symm n11)).trans h104
  have h114 : f111 q20 = some (.inl (y 0, 93, .inl (fun _ => (0 : Int32)))) := by rw [ef111]; exact (fw_up_n (Ne.symm n23)).trans h105
  have h115 : f111 q34 = some (.inl (y 0, 93, .inl (fun _ => (0 : Int32)))) := by rw [ef111]; exact (fw_up_n (Ne.symm n38)).trans h106
  have h116 : f111 q51 = some (.inl (y 0, 160, .inl (fun _ => (0 : Int32)))) := by rw [ef111]; exact (fw_up_n (Ne.symm n56)).trans h107
  have h117 : f111 q71 = some (.inl (y 0, 160, .inl (fun _ => (0 : Int32)))) := by rw [ef111]; exact (fw_up_n (Ne.symm n77)).trans h108
  have h118 : f111 q94 = some (.inl (y 0, 160, .inl (fun _ => (0 : Int32)))) := by rw [ef111]; exact (fw_up_n (Ne.symm n101)).trans h110
  have h119 : f111 h0 = some (.inr (9, [.int 0, .int 0, .int 0, .ref q1, .ref q9, .ref q20, .ref q34, .ref q51, .ref q71, .ref q94, .null, .null, .null, .int 0, .null, .null, .null, .null, .int 0, .null, .null, .int 0, .null, .null, .null])) := by rw [ef111]; exact fw_up_s
  refine lv_aload_n hx hb dX9_init_64 rfl (lv_at hl 0 rfl) ?_
  refine lv_bipush (v := 8) hx hb dX9_init_65 (by decide) ?_
  refine fw_newI hx hb hts hE.1.1 hw hE.2.1 (by decide +kernel) 0 rfl (N := 8) (by decide) rfl (by decide) (Nat.le_of_ble_eq_true rfl) (Nat.le_of_ble_eq_true rfl) dX9_init_67 (fun q120 H hnq120 hw => ?_)
  have hbq120 : f q120 = none := by have z9 := hnq120; rw [ef111, ef102, ef86, ef78, ef64, ef57, ef45, ef39, ef29, ef24, ef16, ef12, ef6, ef3] at z9; exact (fw_up_o (fw_up_o (fw_up_o (fw_up_o (fw_up_o (fw_up_o (fw_up_o (fw_up_o (fw_up_o (fw_up_o (fw_up_o (fw_up_o (fw_up_o (fw_up_o z9))))))))))))))
  have n121 : q1 ≠ q120 := fun z => absurd (h112.symm.trans ((congrArg f111 z).trans hnq120)) (by simp)
  have n122 : q9 ≠ q120 := fun z => absurd (h113.symm.trans ((congrArg f111 z).trans hnq120)) (by simp)
  have n123 : q20 ≠ q120 := fun z => absurd (h114.symm.trans ((congrArg f111 z).trans hnq120)) (by simp)
  have n124 : q34 ≠ q120 := fun z => absurd (h115.symm.trans ((congrArg f111 z).trans hnq120)) (by simp)
  have n125 : q51 ≠ q120 := fun z => absurd (h116.symm.trans ((congrArg f111 z).trans hnq120)) (by simp)
  have n126 : q71 ≠ q120 := fun z => absurd (h117.symm.trans ((congrArg f111 z).trans hnq120)) (by simp)
  have n127 : q94 ≠ q120 := fun z => absurd (h118.symm.trans ((congrArg f111 z).trans hnq120)) (by simp)
  have n128 : h0 ≠ q120 := fun z => absurd (h119.symm.trans ((congrArg f111 z).trans hnq120)) (by simp)
  obtain ⟨f129, ef129⟩ : ∃ z, z = fw_up f111 q120 (.inl (y 0, 8, .inl (fun _ => (0 : Int32)))) := ⟨_, rfl⟩
  have hw : fw_S D A s.heap f129 H locs := by rw [ef129]; exact hw
  have h130 : f129 q1 = some (.inl (y 0, 8, .inl (fun _ => (0 : Int32)))) := by rw [ef129]; exact (fw_up_n n121).trans h112
  have h131 : f129 q9 = some (.inl (y 0, 248, .inl (fun _ => (0 : Int32)))) := by rw [ef129]; exact (fw_up_n n122).trans h113
  have h132 : f129 q20 = some (.inl (y 0, 93, .inl (fun _ => (0 : Int32)))) := by rw [ef129]; exact (fw_up_n n123).trans h114
  have h133 : f129 q34 = some (.inl (y 0, 93, .inl (fun _ => (0 : Int32)))) := by rw [ef129]; exact (fw_up_n n124).trans h115
  have h134 : f129 q51 = some (.inl (y 0, 160, .inl (fun _ => (0 : Int32)))) := by rw [ef129]; exact (fw_up_n n125).trans h116
  have h135 : f129 q71 = some (.inl (y 0, 160, .inl (fun _ => (0 : Int32)))) := by rw [ef129]; exact (fw_up_n n126).trans h117
  have h136 : f129 q94 = some (.inl (y 0, 160, .inl (fun _ => (0 : Int32)))) := by rw [ef129]; exact (fw_up_n n127).trans h118
  have h137 : f129 h0 = some (.inr (9, [.int 0, .int 0, .int 0, .ref q1, .ref q9, .ref q20, .ref q34, .ref q51, .ref q71, .ref q94, .null, .null, .null, .int 0, .null, .null, .null, .null, .int 0, .null, .null, .int 0, .null, .null, .null])) := by rw [ef129]; exact (fw_up_n n128).trans h119
  have h138 : f129 q120 = some (.inl (y 0, 8, .inl (fun _ => (0 : Int32)))) := by rw [ef129]; exact fw_up_s
  refine fw_putF hx hb hts hown hE.1.1 hw (ci := 9) (fs := [.int 0, .int 0, .int 0, .ref q1, .ref q9, .ref q20, .ref q34, .ref q51, .ref q71, .ref q94, .null, .null, .null, .int 0, .null, .null, .null, .null, .int 0, .null, .null, .int 0, .null, .null, .null]) (v := .ref q120) h137 iX9_init_9 tyX9 tyX9_ok nmX9 rfl 10 (by decide) rfl (hin rfl) rfl rfl rfl (Nat.le_of_ble_eq_true rfl) (by decide +kernel) dX9_init_69 (fun H locs hw => ?_)
  obtain ⟨f139, ef139⟩ : ∃ z, z = fw_up f129 h0 (.inr (9, [.int 0, .int 0, .int 0, .ref q1, .ref q9, .ref q20, .ref q34, .ref q51, .ref q71, .ref q94, .ref q120, .null, .null, .int 0, .null, .null, .null, .null, .int 0, .null, .null, .int 0, .null, .null, .null])) := ⟨_, rfl⟩
  have hw : fw_S D A s.heap f139 H locs := by rw [ef139]; exact hw
  have h140 : f139 q1 = some (.inl (y 0, 8, .inl (fun _ => (0 : Int32)))) := by rw [ef139]; exact (fw_up_n (Ne.symm n2)).trans h130
  have h141 : f139 q9 = some (.inl (y 0, 248, .inl (fun _ => (0 : Int32)))) := by rw [ef139]; exact (fw_up_n (Ne.symm n11)).trans h131
  have h142 : f139 q20 = some (.inl (y 0, 93, .inl (fun _ => (0 : Int32)))) := by rw [ef139]; exact (fw_up_n (Ne.symm n23)).trans h132
  have h143 : f139 q34 = some (.inl (y 0, 93, .inl (fun _ => (0 : Int32)))) := by rw [ef139]; exact (fw_up_n (Ne.symm n38)).trans h133
  have h144 : f139 q51 = some (.inl (y 0, 160, .inl (fun _ => (0 : Int32)))) := by rw [ef139]; exact (fw_up_n (Ne.symm n56)).trans h134
  have h145 : f139 q71 = some (.inl (y 0, 160, .inl (fun _ => (0 : Int32)))) := by rw [ef139]; exact (fw_up_n (Ne.symm n77)).trans h135
  have h146 : f139 q94 = some (.inl (y 0, 160, .inl (fun _ => (0 : Int32)))) := by rw [ef139]; exact (fw_up_n (Ne.symm n101)).trans h136
  have h147 : f139 q120 = some (.inl (y 0, 8, .inl (fun _ => (0 : Int32)))) := by rw [ef139]; exact (fw_up_n (Ne.symm n128)).trans h138
  have h148 : f139 h0 = some (.inr (9, [.int 0, .int 0, .int 0, .ref q1, .ref q9, .ref q20, .ref q34, .ref q51, .ref q71, .ref q94, .ref q120, .null, .null, .int 0, .null, .null, .null, .null, .int 0, .null, .null, .int 0, .null, .null, .null])) := by rw [ef139]; exact fw_up_s
  refine lv_aload_n hx hb dX9_init_72 rfl (lv_at hl 0 rfl) ?_
  refine lv_bipush (v := 8) hx hb dX9_init_73 (by decide) ?_
  refine fw_newI hx hb hts hE.1.1 hw hE.2.1 (by decide +kernel) 0 rfl (N := 8) (by decide) rfl (by decide) (Nat.le_of_ble_eq_true rfl) (Nat.le_of_ble_eq_true rfl) dX9_init_75 (fun q149 H hnq149 hw => ?_)
  have hbq149 : f q149 = none := by have z9 := hnq149; rw [ef139, ef129, ef111, ef102, ef86, ef78, ef64, ef57, ef45, ef39, ef29, ef24, ef16, ef12, ef6, ef3] at z9; exact (fw_up_o (fw_up_o (fw_up_o (fw_up_o (fw_up_o (fw_up_o (fw_up_o (fw_up_o (fw_up_o (fw_up_o (fw_up_o (fw_up_o (fw_up_o (fw_up_o (fw_up_o (fw_up_o z9))))))))))))))))
  have n150 : q1 ≠ q149 := fun z => absurd (h140.symm.trans ((congrArg f139 z).trans hnq149)) (by simp)
  have n151 : q9 ≠ q149 := fun z => absurd (h141.symm.trans ((congrArg f139 z).trans hnq149)) (by simp)
  have n152 : q20 ≠ q149 := fun z => absurd (h142.symm.trans ((congrArg f139 z).trans hnq149)) (by simp)
  have n153 : q34 ≠ q149 := fun z => absurd (h143.symm.trans ((congrArg f139 z).trans hnq149)) (by simp)
  have n154 : q51 ≠ q149 := fun z => absurd (h144.symm.trans ((congrArg f139 z).trans hnq149)) (by simp)
  have n155 : q71 ≠ q149 := fun z => absurd (h145.symm.trans ((congrArg f139 z).trans hnq149)) (by simp)
  have n156 : q94 ≠ q149 := fun z => absurd (h146.symm.trans ((congrArg f139 z).trans hnq149)) (by simp)
  have n157 : q120 ≠ q149 := fun z => absurd (h147.symm.trans ((congrArg f139 z).trans hnq149)) (by simp)
  have n158 : h0 ≠ q149 := fun z => absurd (h148.symm.trans ((congrArg f139 z).trans hnq149)) (by simp)
  obtain ⟨f159, ef159⟩ : ∃ z, z = fw_up f139 q149 (.inl (y 0, 8, .inl (fun _ => (0 : Int32)))) := ⟨_, rfl⟩
  have hw : fw_S D A s.heap f159 H locs := by rw [ef159]; exact hw
  have h160 : f159 q1 = some (.inl (y 0, 8, .inl (fun _ => (0 : Int32)))) := by rw [ef159]; exact (fw_up_n n150).trans h140
  have h161 : f159 q9 = some (.inl (y 0, 248, .inl (fun _ => (0 : Int32)))) := by rw [ef159]; exact (fw_up_n n151).trans h141
  have h162 : f159 q20 = some (.inl (y 0, 93, .inl (fun _ => (0 : Int32)))) := by rw [ef159]; exact (fw_up_n n152).trans h142
  have h163 : f159 q34 = some (.inl (y 0, 93, .inl (fun _ => (0 : Int32)))) := by rw [ef159]; exact (fw_up_n n153).trans h143
  have h164 : f159 q51 = some (.inl (y 0, 160, .inl (fun _ => (0 : Int32)))) := by rw [ef159]; exact (fw_up_n n154).trans h144
  have h165 : f159 q71 = some (.inl (y 0, 160, .inl (fun _ => (0 : Int32)))) := by rw [ef159]; exact (fw_up_n n155).trans h145
  have h166 : f159 q94 = some (.inl (y 0, 160, .inl (fun _ => (0 : Int32)))) := by rw [ef159]; exact (fw_up_n n156).trans h146
  have h167 : f159 q120 = some (.inl (y 0, 8, .inl (fun _ => (0 : Int32)))) := by rw [ef159]; exact (fw_up_n n157).trans h147
  have h168 : f159 h0 = some (.inr (9, [.int 0, .int 0, .int 0, .ref q1, .ref q9, .ref q20, .ref q34, .ref q51, .ref q71, .ref q94, .ref q120, .null, .null, .int 0, .null, .null, .null, .null, .int 0, .null, .null, .int 0, .null, .null, .null])) := by rw [ef159]; exact (fw_up_n n158).trans h148
  have h169 : f159 q149 = some (.inl (y 0, 8, .inl (fun _ => (0 : Int32)))) := by rw [ef159]; exact fw_up_s
  refine fw_putF hx hb hts hown hE.1.1 hw (ci := 9) (fs := [.int 0, .int 0, .int 0, .ref q1, .ref q9, .ref q20, .ref q34, .ref q51, .ref q71, .ref q94, .ref q120, .null, .null, .int 0, .null, .null, .null, .null, .int 0, .null, .null, .int 0, .null, .null, .null]) (v := .ref q149) h168 iX9_init_9 tyX9 tyX9_ok nmX9 rfl 11 (by decide) rfl (hin rfl) rfl rfl rfl (Nat.le_of_ble_eq_true rfl) (by decide +kernel) dX9_init_77 (fun H locs hw => ?_)
  obtain ⟨f170, ef170⟩ : ∃ z, z = fw_up f159 h0 (.inr (9, [.int 0, .int 0, .int 0, .ref q1, .ref q9, .ref q20, .ref q34, .ref q51, .ref q71, .ref q94, .ref q120, .ref q149, .null, .int 0, .null, .null, .null, .null, .int 0, .null, .null, .int 0, .null, .null, .null])) := ⟨_, rfl⟩
  have hw : fw_S D A s.heap f170 H locs := by rw [ef170]; exact hw
  have h171 : f170 q1 = some (.inl (y 0, 8, .inl (fun _ => (0 : Int32)))) := by rw [ef170]; exact (fw_up_n (Ne.symm n2)).trans h160
  have h172 : f170 q9 = some (.inl (y 0, 248, .inl (fun _ => (0 : Int32)))) := by rw [ef170]; exact (fw_up_n (Ne.symm n11)).trans h161
  have h173 : f170 q20 = some (.inl (y 0, 93, .inl (fun _ => (0 : Int32)))) := by rw [ef170]; exact (fw_up_n (Ne.symm n23)).trans h162
  have h174 : f170 q34 = some (.inl (y 0, 93, .inl (fun _ => (0 : Int32)))) := by rw [ef170]; exact (fw_up_n (Ne.symm n38)).trans h163
  have h175 : f170 q51 = some (.inl (y 0, 160, .inl (fun _ => (0 : Int32)))) := by rw [ef170]; exact (fw_up_n (Ne.symm n56)).trans h164
  have h176 : f170 q71 = some (.inl (y 0, 160, .inl (fun _ => (0 : Int32)))) := by rw [ef170]; exact (fw_up_n (Ne.symm n77)).trans h165
  have h177 : f170 q94 = some (.inl (y 0, 160, .inl (fun _ => (0 : Int32)))) := by rw [ef170]; exact (fw_up_n (Ne.symm n101)).trans h166
  have h178 : f170 q120 = some (.inl (y 0, 8, .inl (fun _ => (0 : Int32)))) := by rw [ef170]; exact (fw_up_n (Ne.symm n128)).trans h167
  have h179 : f170 q149 = some (.inl (y 0, 8, .inl (fun _ => (0 : Int32)))) := by rw [ef170]; exact (fw_up_n (Ne.symm n158)).trans h169
  have h180 : f170 h0 = some (.inr (9, [.int 0, .int 0, .int 0, .ref q1, .ref q9, .ref q20, .ref q34, .ref q51, .ref q71, .ref q94, .ref q120, .ref q149, .null, .int 0, .null, .null, .null, .null, .int 0, .null, .null, .int 0, .null, .null, .null])) := by rw [ef170]; exact fw_up_s
  refine lv_aload_n hx hb dX9_init_80 rfl (lv_at hl 0 rfl) ?_
  refine lv_sipush (v := 992) hx hb dX9_init_81 (by decide) ?_
  refine fw_newI hx hb hts hE.1.1 hw hE.2.1 (by decide +kernel) 0 rfl (N := 992) (by decide) rfl (by decide) (Nat.le_of_ble_eq_true rfl) (Nat.le_of_ble_eq_true rfl) dX9_init_84 (fun q181 H hnq181 hw => ?_)
  have hbq181 : f q181 = none := by have z9 := hnq181; rw [ef170, ef159, ef139, ef129, ef111, ef102, ef86, ef78, ef64, ef57, ef45, ef39, ef29, ef24, ef16, ef12, ef6, ef3] at z9; exact (fw_up_o (fw_up_o (fw_up_o (fw_up_o (fw_up_o (fw_up_o (fw_up_o (fw_up_o (fw_up_o (fw_up_o (fw_up_o (fw_up_o (fw_up_o (fw_up_o (fw_up_o (fw_up_o (fw_up_o (fw_up_o z9))))))))))))))))))
  have n182 : q1 ≠ q181 := fun z => absurd (h171.symm.trans ((congrArg f170 z).trans hnq181)) (by simp)
  have n183 : q9 ≠ q181 := fun z => absurd (h172.symm.trans ((congrArg f170 z).trans hnq181)) (by simp)
  have n184 : q20 ≠ q181 := fun z => absurd (h173.symm.trans ((congrArg f170 z).trans hnq181)) (by simp)
  have n185 : q34 ≠ q181 := fun z => absurd (h174.symm.trans ((congrArg f170 z).trans hnq181)) (by simp)
  have n186 : q51 ≠ q181 := fun z => absurd (h175.symm.trans ((congrArg f170 z).trans hnq181)) (by simp)
  have n187 : q71 ≠ q181 := fun z => absurd (h176.symm.trans ((congrArg f170 z).trans hnq181)) (by simp)
  have n188 : q94 ≠ q181 := fun z => absurd (h177.symm.trans ((congrArg f170 z).trans hnq181)) (by simp)
  have n189 : q120 ≠ q181 := fun z => absurd (h178.symm.trans ((congrArg f170 z).trans hnq181)) (by simp)
  have n190 : q149 ≠ q181 := fun z => absurd (h179.symm.trans ((congrArg f170 z).trans hnq181)) (by simp)
  have n191 : h0 ≠ q181 := fun z => absurd (h180.symm.trans ((congrArg f170 z).trans hnq181)) (by simp)
  obtain ⟨f192, ef192⟩ : ∃ z, z = fw_up f170 q181 (.inl (y 0, 992, .inl (fun _ => (0 : Int32)))) := ⟨_, rfl⟩
  have hw : fw_S D A s.heap f192 H locs := by rw [ef192]; exact hw
  have h193 : f192 q1 = some (.inl (y 0, 8, .inl (fun _ => (0 : Int32)))) := by rw [ef192]; exact (fw_up_n n182).trans h171
  have h194 : f192 q9 = some (.inl (y 0, 248, .inl (fun _ => (0 : Int32)))) := by rw [ef192]; exact (fw_up_n n183).trans h172
  have h195 : f192 q20 = some (.inl (y 0, 93, .inl (fun _ => (0 : Int32)))) := by rw [ef192]; exact (fw_up_n n184).trans h173
  have h196 : f192 q34 = some (.inl (y 0, 93, .inl (fun _ => (0 : Int32)))) := by rw [ef192]; exact (fw_up_n n185).trans h174
  have h197 : f192 q51 = some (.inl (y 0, 160, .inl (fun _ => (0 : Int32)))) := by rw [ef192]; exact (fw_up_n n186).trans h175
  have h198 : f192 q71 = some (.inl (y 0, 160, .inl (fun _ => (0 : Int32)))) := by rw [ef192]; exact (fw_up_n n187).trans h176
  have h199 : f192 q94 = some (.inl (y 0, 160, .inl (fun _ => (0 : Int32)))) := by rw [ef192]; exact (fw_up_n n188).trans h177
  have h200 : f192 q120 = some (.inl (y 0, 8, .inl (fun _ => (0 : Int32)))) := by rw [ef192]; exact (fw_up_n n189).trans h178
  have h201 : f192 q149 = some (.inl (y 0, 8, .inl (fun _ => (0 : Int32)))) := by rw [ef192]; exact (fw_up_n n190).trans h179
  have h202 : f192 h0 = some (.inr (9, [.int 0, .int 0, .int 0, .ref q1, .ref q9, .ref q20, .ref q34, .ref q51, .ref q71, .ref q94, .ref q120, .ref q149, .null, .int 0, .null, .null, .null, .null, .int 0, .null, .null, .int 0, .null, .null, .null])) := by rw [ef192]; exact (fw_up_n n191).trans h180
  have h203 : f192 q181 = some (.inl (y 0, 992, .inl (fun _ => (0 : Int32)))) := by rw [ef192]; exact fw_up_s
  refine fw_putF hx hb hts hown hE.1.1 hw (ci := 9) (fs := [.int 0, .int 0, .int 0, .ref q1, .ref q9, .ref q20, .ref q34, .ref q51, .ref q71, .ref q94, .ref q120, .ref q149, .null, .int 0, .null, .null, .null, .null, .int 0, .null, .null, .int 0, .null, .null, .null]) (v := .ref q181) h202 iX9_init_9 tyX9 tyX9_ok nmX9 rfl 12 (by decide) rfl (hin rfl) rfl rfl rfl (Nat.le_of_ble_eq_true rfl) (by decide +kernel) dX9_init_86 (fun H locs hw => ?_)
  obtain ⟨f204, ef204⟩ : ∃ z, z = fw_up f192 h0 (.inr (9, [.int 0, .int 0, .int 0, .ref q1, .ref q9, .ref q20, .ref q34, .ref q51, .ref q71, .ref q94, .ref q120, .ref q149, .ref q181, .int 0, .null, .null, .null, .null, .int 0, .null, .null, .int 0, .null, .null, .null])) := ⟨_, rfl⟩
  have hw : fw_S D A s.heap f204 H locs := by rw [ef204]; exact hw
  have h205 : f204 q1 = some (.inl (y 0, 8, .inl (fun _ => (0 : Int32)))) := by rw [ef204]; exact (fw_up_n (Ne.symm n2)).trans h193
  have h206 : f204 q9 = some (.inl (y 0, 248, .inl (fun _ => (0 : Int32)))) := by rw [ef204]; exact (fw_up_n (Ne.symm n11)).trans h194
  have h207 : f204 q20 = some (.inl (y 0, 93, .inl (fun _ => (0 : Int32)))) := by rw [ef204]; exact (fw_up_n (Ne.symm n23)).trans h195
  have h208 : f204 q34 = some (.inl (y 0, 93, .inl (fun _ => (0 : Int32)))) := by rw [ef204]; exact (fw_up_n (Ne.symm n38)).trans h196
  have h209 : f204 q51 = some (.inl (y 0, 160, .inl (fun _ => (0 : Int32)))) := by rw [ef204]; exact (fw_up_n (Ne.symm n56)).trans h197
  have h210 : f204 q71 = some (.inl (y 0, 160, .inl (fun _ => (0 : Int32)))) := by rw [ef204]; exact (fw_up_n (Ne.symm n77)).trans h198
  have h211 : f204 q94 = some (.inl (y 0, 160, .inl (fun _ => (0 : Int32)))) := by rw [ef204]; exact (fw_up_n (Ne.symm n101)).trans h199
  have h212 : f204 q120 = some (.inl (y 0, 8, .inl (fun _ => (0 : Int32)))) := by rw [ef204]; exact (fw_up_n (Ne.symm n128)).trans h200
  have h213 : f204 q149 = some (.inl (y 0, 8, .inl (fun _ => (0 : Int32)))) := by rw [ef204]; exact (fw_up_n (Ne.symm n158)).trans h201
  have h214 : f204 q181 = some (.inl (y 0, 992, .inl (fun _ => (0 : Int32)))) := by rw [ef204]; exact (fw_up_n (Ne.symm n191)).trans h203
  have h215 : f204 h0 = some (.inr (9, [.int 0, .int 0, .int 0, .ref q1, .ref q9, .ref q20, .ref q34, .ref q51, .ref q71, .ref q94, .ref q120, .ref q149, .ref q181, .int 0, .null, .null, .null, .null, .int 0, .null, .null, .int 0, .null, .null, .null])) := by rw [ef204]; exact fw_up_s
  refine lv_aload_n hx hb dX9_init_89 rfl (lv_at hl 0 rfl) ?_
  refine lv_bipush (v := 20) hx hb dX9_init_90 (by decide) ?_
  refine fw_newI hx hb hts hE.1.1 hw hE.2.1 (by decide +kernel) 0 rfl (N := 20) (by decide) rfl (by decide) (Nat.le_of_ble_eq_true rfl) (Nat.le_of_ble_eq_true rfl) dX9_init_92 (fun q216 H hnq216 hw => ?_)
  have hbq216 : f q216 = none := by have z9 := hnq216; rw [ef204, ef192, ef170, ef159, ef139, ef129, ef111, ef102, ef86, ef78, ef64, ef57, ef45, ef39, ef29, ef24, ef16, ef12, ef6, ef3] at z9; exact (fw_up_o (fw_up_o (fw_up_o (fw_up_o (fw_up_o (fw_up_o (fw_up_o (fw_up_o (fw_up_o (fw_up_o (fw_up_o (fw_up_o (fw_up_o (fw_up_o (fw_up_o (fw_up_o (fw_up_o (fw_up_o (fw_up_o (fw_up_o z9))))))))))))))))))))
  have n217 : q1 ≠ q216 := fun z => absurd (h205.symm.trans ((congrArg f204 z).trans hnq216)) (by simp)
  have n218 : q9 ≠ q216 := fun z => absurd (h206.symm.trans ((congrArg f204 z).trans hnq216)) (by simp)
  have n219 : q20 ≠ q216 := fun z => absurd (h207.symm.trans ((congrArg f204 z).trans hnq216)) (by simp)
  have n220 : q34 ≠ q216 := fun z => absurd (h208.symm.trans ((congrArg f204 z).trans hnq216)) (by simp)
  have n221 : q51 ≠ q216 := fun z => absurd (h209.symm.trans ((congrArg f204 z).trans hnq216)) (by simp)
  have n222 : q71 ≠ q216 := fun z => absurd (h210.symm.trans ((congrArg f204 z).trans hnq216)) (by simp)
  have n223 : q94 ≠ q216 := fun z => absurd (h211.symm.trans ((congrArg f204 z).trans hnq216)) (by simp)
  have n224 : q120 ≠ q216 := fun z => absurd (h212.symm.trans ((congrArg f204 z).trans hnq216)) (by simp)
  have n225 : q149 ≠ q216 := fun z => absurd (h213.symm.trans ((congrArg f204 z).trans hnq216)) (by simp)
  have n226 : q181 ≠ q216 := fun z => absurd (h214.symm.trans ((congrArg f204 z).trans hnq216)) (by simp)
  have n227 : h0 ≠ q216 := fun z => absurd (h215.symm.trans ((congrArg f204 z).trans hnq216)) (by simp)
  obtain ⟨f228, ef228⟩ : ∃ z, z = fw_up f204 q216 (.inl (y 0, 20, .inl (fun _ => (0 : Int32)))) := ⟨_, rfl⟩
  have hw : fw_S D A s.heap f228 H locs := by rw [ef228]; exact hw
  have h229 : f228 q1 = some (.inl (y 0, 8, .inl (fun _ => (0 : Int32)))) := by rw [ef228]; exact (fw_up_n n217).trans h205
  have h230 : f228 q9 = some (.inl (y 0, 248, .inl (fun _ => (0 : Int32)))) := by rw [ef228]; exact (fw_up_n n218).trans h206
  have h231 : f228 q20 = some (.inl (y 0, 93, .inl (fun _ => (0 : Int32)))) := by rw [ef228]; exact (fw_up_n n219).trans h207
  have h232 : f228 q34 = some (.inl (y 0, 93, .inl (fun _ => (0 : Int32)))) := by rw [ef228]; exact (fw_up_n n220).trans h208
  have h233 : f228 q51 = some (.inl (y 0, 160, .inl (fun _ => (0 : Int32)))) := by rw [ef228]; exact (fw_up_n n221).trans h209
  have h234 : f228 q71 = some (.inl (y 0, 160, .inl (fun _ => (0 : Int32)))) := by rw [ef228]; exact (fw_up_n n222).trans h210
  have h235 : f228 q94 = some (.inl (y 0, 160, .inl (fun _ => (0 : Int32)))) := by rw [ef228]; exact (fw_up_n n223).trans h211
  have h236 : f228 q120 = some (.inl (y 0, 8, .inl (fun _ => (0 : Int32)))) := by rw [ef228]; exact (fw_up_n n224).trans h212
  have h237 : f228 q149 = some (.inl (y 0, 8, .inl (fun _ => (0 : Int32)))) := by rw [ef228]; exact (fw_up_n n225).trans h213
  have h238 : f228 q181 = some (.inl (y 0, 992, .inl (fun _ => (0 : Int32)))) := by rw [ef228]; exact (fw_up_n n226).trans h214
  have h239 : f228 h0 = some (.inr (9, [.int 0, .int 0, .int 0, .ref q1, .ref q9, .ref q20, .ref q34, .ref q51, .ref q71, .ref q94, .ref q120, .ref q149, .ref q181, .int 0, .null, .null, .null, .null, .int 0, .null, .null, .int 0, .null, .null, .null])) := by rw [ef228]; exact (fw_up_n n227).trans h215
  have h240 : f228 q216 = some (.inl (y 0, 20, .inl (fun _ => (0 : Int32)))) := by rw [ef228]; exact fw_up_s
  refine fw_putF hx hb hts hown hE.1.1 hw (ci := 9) (fs := [.int 0, .int 0, .int 0, .ref q1, .ref q9, .ref q20, .ref q34, .ref q51, .ref q71, .ref q94, .ref q120, .ref q149, .ref q181, .int 0, .null, .null, .null, .null, .int 0, .null, .null, .int 0, .null, .null, .null]) (v := .ref q216) h239 iX9_init_9 tyX9 tyX9_ok nmX9 rfl 14 (by decide) rfl (hin rfl) rfl rfl rfl (Nat.le_of_ble_eq_true rfl) (by decide +kernel) dX9_init_94 (fun H locs hw => ?_)
  obtain ⟨f241, ef241⟩ : ∃ z, z = fw_up f228 h0 (.inr (9, [.int 0, .int 0, .int 0, .ref q1, .ref q9, .ref q20, .ref q34, .ref q51, .ref q71, .ref q94, .ref q120, .ref q149, .ref q181, .int 0, .ref q216, .null, .null, .null, .int 0, .null, .null, .int 0, .null, .null, .null])) := ⟨_, rfl⟩
  have hw : fw_S D A s.heap f241 H locs := by rw [ef241]; exact hw
  have h242 : f241 q1 = some (.inl (y 0, 8, .inl (fun _ => (0 : Int32)))) := by rw [ef241]; exact (fw_up_n (Ne.symm n2)).trans h229
  have h243 : f241 q9 = some (.inl (y 0, 248, .inl (fun _ => (0 : Int32)))) := by rw [ef241]; exact (fw_up_n (Ne.symm n11)).trans h230
  have h244 : f241 q20 = some (.inl (y 0, 93, .inl (fun _ => (0 : Int32)))) := by rw [ef241]; exact (fw_up_n (Ne.symm n23)).trans h231
  have h245 : f241 q34 = some (.inl (y 0, 93, .inl (fun _ => (0 : Int32)))) := by rw [ef241]; exact (fw_up_n (Ne.symm n38)).trans h232
  have h246 : f241 q51 = some (.inl (y 0, 160, .inl (fun _ => (0 : Int32)))) := by rw [ef241]; exact (fw_up_n (Ne.symm n56)).trans h233
  have h247 : f241 q71 = some (.inl (y 0, 160, .inl (fun _ => (0 : Int32)))) := by rw [ef241]; exact (fw_up_n (Ne.symm n77)).trans h234
  have h248 : f241 q94 = some (.inl (y 0, 160, .inl (fun _ => (0 : Int32)))) := by rw [ef241]; exact (fw_up_n (Ne.symm n101)).trans h235
  have h249 : f241 q120 = some (.inl (y 0, 8, .inl (fun _ => (0 : Int32)))) := by rw [ef241]; exact (fw_up_n (Ne.symm n128)).trans h236
  have h250 : f241 q149 = some (.inl (y 0, 8, .inl (fun _ => (0 : Int32)))) := by rw [ef241]; exact (fw_up_n (Ne.symm n158)).trans h237
  have h251 : f241 q181 = some (.inl (y 0, 992, .inl (fun _ => (0 : Int32)))) := by rw [ef241]; exact (fw_up_n (Ne.symm n191)).trans h238
  have h252 : f241 q216 = some (.inl (y 0, 20, .inl (fun _ => (0 : Int32)))) := by rw [ef241]; exact (fw_up_n (Ne.symm n227)).trans h240
  have h253 : f241 h0 = some (.inr (9, [.int 0, .int 0, .int 0, .ref q1, .ref q9, .ref q20, .ref q34, .ref q51, .ref q71, .ref q94, .ref q120, .ref q149, .ref q181, .int 0, .ref q216, .null, .null, .null, .int 0, .null, .null, .int 0, .null, .null, .null])) := by rw [ef241]; exact fw_up_s
  refine lv_aload_n hx hb dX9_init_97 rfl (lv_at hl 0 rfl) ?_
  refine lv_bipush (v := 20) hx hb dX9_init_98 (by decide) ?_
  refine fw_newI hx hb hts hE.1.1 hw hE.2.1 (by decide +kernel) 0 rfl (N := 20) (by decide) rfl (by decide) (Nat.le_of_ble_eq_true rfl) (Nat.le_of_ble_eq_true rfl) dX9_init_100 (fun q254 H hnq254 hw => ?_)
  have hbq254 : f q254 = none := by have z9 := hnq254; rw [ef241, ef228, ef204, ef192, ef170, ef159, ef139, ef129, ef111, ef102, ef86, ef78, ef64, ef57, ef45, ef39, ef29, ef24, ef16, ef12, ef6, ef3] at z9; exact (fw_up_o (fw_up_o (fw_up_o (fw_up_o (fw_up_o (fw_up_o (fw_up_o (fw_up_o (fw_up_o (fw_up_o (fw_up_o (fw_up_o (fw_up_o (fw_up_o (fw_up_o (fw_up_o (fw_up_o (fw_up_o (fw_up_o (fw_up_o (fw_up_o (fw_up_o z9))))))))))))))))))))))
  have n255 : q1 ≠ q254 := fun z => absurd (h242.symm.trans ((congrArg f241 z).trans hnq254)) (by simp)
  have n256 : q9 ≠ q254 := fun z => absurd (h243.symm.trans ((congrArg f241 z).trans hnq254)) (by simp)
  have n257 : q20 ≠ q254 := fun z => absurd (h244.symm.trans ((congrArg f241 z).trans hnq254)) (by simp)
  have n258 : q34 ≠ q254 := fun z => absurd (h245.symm.trans ((congrArg f241 z).trans hnq254)) (by simp)
  have n259 : q51 ≠ q254 := fun z => absurd (h246.symm.trans ((congrArg f241 z).trans hnq254)) (by simp)
  have n260 : q71 ≠ q254 := fun z => absurd (h247.symm.trans ((congrArg f241 z).trans hnq254)) (by simp)
  have n261 : q94 ≠ q254 := fun z => absurd (h248.symm.trans ((congrArg f241 z).trans hnq254)) (by simp)
  have n262 : q120 ≠ q254 := fun z => absurd (h249.symm.trans ((congrArg f241 z).trans hnq254)) (by simp)
  have n263 : q149 ≠ q254 := fun z => absurd (h250.symm.trans ((congrArg f241 z).trans hnq254)) (by simp)
  have n264 : q181 ≠ q254 := fun z => absurd (h251.symm.trans ((congrArg f241 z).trans hnq254)) (by simp)
  have n265 : q216 ≠ q254 := fun z => absurd (h252.symm.trans ((congrArg f241 z).trans hnq254)) (by simp)
  have n266 : h0 ≠ q254 := fun z => absurd (h253.symm.trans ((congrArg f241 z).trans hnq254)) (by simp)
  obtain ⟨f267, ef267⟩ : ∃ z, z = fw_up f241 q254 (.inl (y 0, 20, .inl (fun _ => (0 : Int32)))) := ⟨_, rfl⟩
  have hw : fw_S D A s.heap f267 H locs := by rw [ef267]; exact hw
  have h268 : f267 q1 = some (.inl (y 0, 8, .inl (fun _ => (0 : Int32)))) := by rw [ef267]; exact (fw_up_n n255).trans h242
  have h269 : f267 q9 = some (.inl (y 0, 248, .inl (fun _ => (0 : Int32)))) := by rw [ef267]; exact (fw_up_n n256).trans h243
  have h270 : f267 q20 = some (.inl (y 0, 93, .inl (fun _ => (0 : Int32)))) := by rw [ef267]; exact (fw_up_n n257).trans h244
  have h271 : f267 q34 = some (.inl (y 0, 93, .inl (fun _ => (0 : Int32)))) := by rw [ef267]; exact (fw_up_n n258).trans h245
  have h272 : f267 q51 = some (.inl (y 0, 160, .inl (fun _ => (0 : Int32)))) := by rw [ef267]; exact (fw_up_n n259).trans h246
  have h273 : f267 q71 = some (.inl (y 0, 160, .inl (fun _ => (0 : Int32)))) := by rw [ef267]; exact (fw_up_n n260).trans h247
  have h274 : f267 q94 = some (.inl (y 0, 160, .inl (fun _ => (0 : Int32)))) := by rw [ef267]; exact (fw_up_n n261).trans h248
  have h275 : f267 q120 = some (.inl (y 0, 8, .inl (fun _ => (0 : Int32)))) := by rw [ef267]; exact (fw_up_n n262).trans h249
  have h276 : f267 q149 = some (.inl (y 0, 8, .inl (fun _ => (0 : Int32)))) := by rw [ef267]; exact (fw_up_n n263).trans h250
  have h277 : f267 q181 = some (.inl (y 0, 992, .inl (fun _ => (0 : Int32)))) := by rw [ef267]; exact (fw_up_n n264).trans h251
  have h278 : f267 q216 = some (.inl (y 0, 20, .inl (fun _ => (0 : Int32)))) := by rw [ef267]; exact (fw_up_n n265).trans h252
  have h279 : f267 h0 = some (.inr (9, [.int 0, .int 0, .int 0, .ref q1, .ref q9, .ref q20, .ref q34, .ref q51, .ref q71, .ref q94, .ref q120, .ref q149, .ref q181, .int 0, .ref q216, .null, .null, .null, .int 0, .null, .null, .int 0, .null, .null, .null])) := by rw [ef267]; exact (fw_up_n n266).trans h253
  have h280 : f267 q254 = some (.inl (y 0, 20, .inl (fun _ => (0 : Int32)))) := by rw [ef267]; exact fw_up_s
  refine fw_putF hx hb hts hown hE.1.1 hw (ci := 9) (fs := [.int 0, .int 0, .int 0, .ref q1, .ref q9, .ref q20, .ref q34, .ref q51, .ref q71, .ref q94, .ref q120, .ref q149, .ref q181, .int 0, .ref q216, .null, .null, .null, .int 0, .null, .null, .int 0, .null, .null, .null]) (v := .ref q254) h279 iX9_init_9 tyX9 tyX9_ok nmX9 rfl 15 (by decide) rfl (hin rfl) rfl rfl rfl (Nat.le_of_ble_eq_true rfl) (by decide +kernel) dX9_init_102 (fun H locs hw => ?_)
  obtain ⟨f281, ef281⟩ : ∃ z, z = fw_up f267 h0 (.inr (9, [.int 0, .int 0, .int 0, .ref q1, .ref q9, .ref q20, .ref q34, .ref q51, .ref q71, .ref q94, .ref q120, .ref q149, .ref q181, .int 0, .ref q216, .ref q254, .null, .null, .int 0, .null, .null, .int 0, .null, .null, .null])) := ⟨_, rfl⟩
  have hw : fw_S D A s.heap f281 H locs := by rw [ef281]; exact hw
  have h282 : f281 q1 = some (.inl (y 0, 8, .inl (fun _ => (0 : Int32)))) := by rw [ef281]; exact (fw_up_n (Ne.symm n2)).trans h268
  have h283 : f281 q9 = some (.inl (y 0, 248, .inl (fun _ => (0 : Int32)))) := by rw [ef281]; exact (fw_up_n (Ne.symm n11)).trans h269
  have h284 : f281 q20 = some (.inl (y 0, 93, .inl (fun _ => (0 : Int32)))) := by rw [ef281]; exact (fw_up_n (Ne.symm n23)).trans h270
  have h285 : f281 q34 = some (.inl (y 0, 93, .inl (fun _ => (0 : Int32)))) := by rw [ef281]; exact (fw_up_n (Ne.symm n38)).trans h271
  have h286 : f281 q51 = some (.inl (y 0, 160, .inl (fun _ => (0 : Int32)))) := by rw [ef281]; exact (fw_up_n (Ne.symm n56)).trans h272
  have h287 : f281 q71 = some (.inl (y 0, 160, .inl (fun _ => (0 : Int32)))) := by rw [ef281]; exact (fw_up_n (Ne.symm n77)).trans h273
  have h288 : f281 q94 = some (.inl (y 0, 160, .inl (fun _ => (0 : Int32)))) := by rw [ef281]; exact (fw_up_n (Ne.symm n101)).trans h274
  have h289 : f281 q120 = some (.inl (y 0, 8, .inl (fun _ => (0 : Int32)))) := by rw [ef281]; exact (fw_up_n (Ne.symm n128)).trans h275
  have h290 : f281 q149 = some (.inl (y 0, 8, .inl (fun _ => (0 : Int32)))) := by rw [ef281]; exact (fw_up_n (Ne.symm n158)).trans h276
  have h291 : f281 q181 = some (.inl (y 0, 992, .inl (fun _ => (0 : Int32)))) := by rw [ef281]; exact (fw_up_n (Ne.symm n191)).trans h277
  have h292 : f281 q216 = some (.inl (y 0, 20, .inl (fun _ => (0 : Int32)))) := by rw [ef281]; exact (fw_up_n (Ne.symm n227)).trans h278
  have h293 : f281 q254 = some (.inl (y 0, 20, .inl (fun _ => (0 : Int32)))) := by rw [ef281]; exact (fw_up_n (Ne.symm n266)).trans h280
  have h294 : f281 h0 = some (.inr (9, [.int 0, .int 0, .int 0, .ref q1, .ref q9, .ref q20, .ref q34, .ref q51, .ref q71, .ref q94, .ref q120, .ref q149, .ref q181, .int 0, .ref q216, .ref q254, .null, .null, .int 0, .null, .null, .int 0, .null, .null, .null])) := by rw [ef281]; exact fw_up_s
  refine lv_aload_n hx hb dX9_init_105 rfl (lv_at hl 0 rfl) ?_
  refine lv_bipush (v := 20) hx hb dX9_init_106 (by decide) ?_
  refine fw_newI hx hb hts hE.1.1 hw hE.2.1 (by decide +kernel) 0 rfl (N := 20) (by decide) rfl (by decide) (Nat.le_of_ble_eq_true rfl) (Nat.le_of_ble_eq_true rfl) dX9_init_108 (fun q295 H hnq295 hw => ?_)
  have hbq295 : f q295 = none := by have z9 := hnq295; rw [ef281, ef267, ef241, ef228, ef204, ef192, ef170, ef159, ef139, ef129, ef111, ef102, ef86, ef78, ef64, ef57, ef45, ef39, ef29, ef24, ef16, ef12, ef6, ef3] at z9; exact (fw_up_o (fw_up_o (fw_up_o (fw_up_o (fw_up_o (fw_up_o (fw_up_o (fw_up_o (fw_up_o (fw_up_o (fw_up_o (fw_up_o (fw_up_o (fw_up_o (fw_up_o (fw_up_o (fw_up_o (fw_up_o (fw_up_o (fw_up_o (fw_up_o (fw_up_o (fw_up_o (fw_up_o z9))))))))))))))))))))))))
  have n296 : q1 ≠ q295 := fun z => absurd (h282.symm.trans ((congrArg f281 z).trans hnq295)) (by simp)
  have n297 : q9 ≠ q295 := fun z => absurd (h283.symm.trans ((congrArg f281 z).trans hnq295)) (by simp)
  have n298 : q20 ≠ q295 := fun z => absurd (h284.symm.trans ((congrArg f281 z).trans hnq295)) (by simp)
  have n299 : q34 ≠ q295 := fun z => absurd (h285.symm.trans ((congrArg f281 z).trans hnq295)) (by simp)
  have n300 : q51 ≠ q295 := fun z => absurd (h286.symm.trans ((congrArg f281 z).trans hnq295)) (by simp)
  have n301 : q71 ≠ q295 := fun z => absurd (h287.symm.trans ((congrArg f281 z).trans hnq295)) (by simp)
  have n302 : q94 ≠ q295 := fun z => absurd (h288.symm.trans ((congrArg f281 z).trans hnq295)) (by simp)
  have n303 : q120 ≠ q295 := fun z => absurd (h289.symm.trans ((congrArg f281 z).trans hnq295)) (by simp)
  have n304 : q149 ≠ q295 := fun z => absurd (h290.symm.trans ((congrArg f281 z).trans hnq295)) (by simp)
  have n305 : q181 ≠ q295 := fun z => absurd (h291.symm.trans ((congrArg f281 z).trans hnq295)) (by simp)
  have n306 : q216 ≠ q295 := fun z => absurd (h292.symm.trans ((congrArg f281 z).trans hnq295)) (by simp)
  have n307 : q254 ≠ q295 := fun z => absurd (h293.symm.trans ((congrArg f281 z).trans hnq295)) (by simp)
  have n308 : h0 ≠ q295 := fun z => absurd (h294.symm.trans ((congrArg f281 z).trans hnq295)) (by simp)
  obtain ⟨f309, ef309⟩ : ∃ z, z = fw_up f281 q295 (.inl (y 0, 20, .inl (fun _ => (0 : Int32)))) := ⟨_, rfl⟩
  have hw : fw_S D A s.heap f309 H locs := by rw [ef309]; exact hw
  have h310 : f309 q1 = some (.inl (y 0, 8, .inl (fun _ => (0 : Int32)))) := by rw [ef309]; exact (fw_up_n n296).trans h282
  have h311 : f309 q9 = some (.inl (y 0, 248, .inl (fun _ => (0 : Int32)))) := by rw [ef309]; exact (fw_up_n n297).trans h283
  have h312 : f309 q20 = some (.inl (y 0, 93, .inl (fun _ => (0 : Int32)))) := by rw [ef309]; exact (fw_up_n n298).trans h284
  have h313 : f309 q34 = some (.inl (y 0, 93, .inl (fun _ => (0 : Int32)))) := by rw [ef309]; exact (fw_up_n n299).trans h285
  have h314 : f309 q51 = some (.inl (y 0, 160, .inl (fun _ => (0 : Int32)))) := by rw [ef309]; exact (fw_up_n n300).trans h286
  have h315 : f309 q71 = some (.inl (y 0, 160, .inl (fun _ => (0 : Int32)))) := by rw [ef309]; exact (fw_up_n n301).trans h287
  have h316 : f309 q94 = some (.inl (y 0, 160, .inl (fun _ => (0 : Int32)))) := by rw [ef309]; exact (fw_up_n n302).trans h288
  have h317 : f309 q120 = some (.inl (y 0, 8, .inl (fun _ => (0 : Int32)))) := by rw [ef309]; exact (fw_up_n n303).trans h289
  have h318 : f309 q149 = some (.inl (y 0, 8, .inl (fun _ => (0 : Int32)))) := by rw [ef309]; exact (fw_up_n n304).trans h290
  have h319 : f309 q181 = some (.inl (y 0, 992, .inl (fun _ => (0 : Int32)))) := by rw [ef309]; exact (fw_up_n n305).trans h291
  have h320 : f309 q216 = some (.inl (y 0, 20, .inl (fun _ => (0 : Int32)))) := by rw [ef309]; exact (fw_up_n n306).trans h292
  have h321 : f309 q254 = some (.inl (y 0, 20, .inl (fun _ => (0 : Int32)))) := by rw [ef309]; exact (fw_up_n n307).trans h293
  have h322 : f309 h0 = some (.inr (9, [.int 0, .int 0, .int 0, .ref q1, .ref q9, .ref q20, .ref q34, .ref q51, .ref q71, .ref q94, .ref q120, .ref q149, .ref q181, .int 0, .ref q216, .ref q254, .null, .null, .int 0, .null, .null, .int 0, .null, .null, .null])) := by rw [ef309]; exact (fw_up_n n308).trans h294
  have h323 : f309 q295 = some (.inl (y 0, 20, .inl (fun _ => (0 : Int32)))) := by rw [ef309]; exact fw_up_s
  refine fw_putF hx hb hts hown hE.1.1 hw (ci := 9) (fs := [.int 0, .int 0, .int 0, .ref q1, .ref q9, .ref q20, .ref q34, .ref q51, .ref q71, .ref q94, .ref q120, .ref q149, .ref q181, .int 0, .ref q216, .ref q254, .null, .null, .int 0, .null, .null, .int 0, .null, .null, .null]) (v := .ref q295) h322 iX9_init_9 tyX9 tyX9_ok nmX9 rfl 16 (by decide) rfl (hin rfl) rfl rfl rfl (Nat.le_of_ble_eq_true rfl) (by decide +kernel) dX9_init_110 (fun H locs hw => ?_)
  obtain ⟨f324, ef324⟩ : ∃ z, z = fw_up f309 h0 (.inr (9, [.int 0, .int 0, .int 0, .ref q1, .ref q9, .ref q20, .ref q34, .ref q51, .ref q71, .ref q94, .ref q120, .ref q149, .ref q181, .int 0, .ref q216, .ref q254, .ref q295, .null, .int 0, .null, .null, .int 0, .null, .null, .null])) := ⟨_, rfl⟩
  have hw : fw_S D A s.heap f324 H locs := by rw [ef324]; exact hw
  have h325 : f324 q1 = some (.inl (y 0, 8, .inl (fun _ => (0 : Int32)))) := by rw [ef324]; exact (fw_up_n (Ne.symm n2)).trans h310
  have h326 : f324 q9 = some (.inl (y 0, 248, .inl (fun _ => (0 : Int32)))) := by rw [ef324]; exact (fw_up_n (Ne.symm n11)).trans h311
  have h327 : f324 q20 = some (.inl (y 0, 93, .inl (fun _ => (0 : Int32)))) := by rw [ef324]; exact (fw_up_n (Ne.symm n23)).trans h312
  have h328 : f324 q34 = some (.inl (y 0, 93, .inl (fun _ => (0 : Int32)))) := by rw [ef324]; exact (fw_up_n (Ne.symm n38)).trans h313
  have h329 : f324 q51 = some (.inl (y 0, 160, .inl (fun _ => (0 : Int32)))) := by rw [ef324]; exact (fw_up_n (Ne.symm n56)).trans h314
  have h330 : f324 q71 = some (.inl (y 0, 160, .inl (fun _ => (0 : Int32)))) := by rw [ef324]; exact (fw_up_n (Ne.symm n77)).trans h315
  have h331 : f324 q94 = some (.inl (y 0, 160, .inl (fun _ => (0 : Int32)))) := by rw [ef324]; exact (fw_up_n (Ne.symm n101)).trans h316
  have h332 : f324 q120 = some (.inl (y 0, 8, .inl (fun _ => (0 : Int32)))) := by rw [ef324]; exact (fw_up_n (Ne.symm n128)).trans h317
  have h333 : f324 q149 = some (.inl (y 0, 8, .inl (fun _ => (0 : Int32)))) := by rw [ef324]; exact (fw_up_n (Ne.symm n158)).trans h318
  have h334 : f324 q181 = some (.inl (y 0, 992, .inl (fun _ => (0 : Int32)))) := by rw [ef324]; exact (fw_up_n (Ne.symm n191)).trans h319
  have h335 : f324 q216 = some (.inl (y 0, 20, .inl (fun _ => (0 : Int32)))) := by rw [ef324]; exact (fw_up_n (Ne.symm n227)).trans h320
  have h336 : f324 q254 = some (.inl (y 0, 20, .inl (fun _ => (0 : Int32)))) := by rw [ef324]; exact (fw_up_n (Ne.symm n266)).trans h321
  have h337 : f324 q295 = some (.inl (y 0, 20, .inl (fun _ => (0 : Int32)))) := by rw [ef324]; exact (fw_up_n (Ne.symm n308)).trans h323
  have h338 : f324 h0 = some (.inr (9, [.int 0, .int 0, .int 0, .ref q1, .ref q9, .ref q20, .ref q34, .ref q51, .ref q71, .ref q94, .ref q120, .ref q149, .ref q181, .int 0, .ref q216, .ref q254, .ref q295, .null, .int 0, .null, .null, .int 0, .null, .null, .null])) := by rw [ef324]; exact fw_up_s
  refine lv_aload_n hx hb dX9_init_113 rfl (lv_at hl 0 rfl) ?_
  refine lv_bipush (v := 20) hx hb dX9_init_114 (by decide) ?_
  refine fw_newI hx hb hts hE.1.1 hw hE.2.1 (by decide +kernel) 0 rfl (N := 20) (by decide) rfl (by decide) (Nat.le_of_ble_eq_true rfl) (Nat.le_of_ble_eq_true rfl) dX9_init_116 (fun q339 H hnq339 hw => ?_)
  have hbq339 : f q339 = none := by have z9 := hnq339; rw [ef324, ef309, ef281, ef267, ef241, ef228, ef204, ef192, ef170, ef159, ef139, ef129, ef111, ef102, ef86, ef78, ef64, ef57, ef45, ef39, ef29, ef24, ef16, ef12, ef6, ef3] at z9; exact (fw_up_o (fw_up_o (fw_up_o (fw_up_o (fw_up_o (fw_up_o (fw_up_o (fw_up_o (fw_up_o (fw_up_o (fw_up_o (fw_up_o (fw_up_o (fw_up_o (fw_up_o (fw_up_o (fw_up_o (fw_up_o (fw_up_o (fw_up_o (fw_up_o (fw_up_o (fw_up_o (fw_up_o (fw_up_o (fw_up_o z9))))))))))))))))))))))))))
  have n340 : q1 ≠ q339 := fun z => absurd (h325.symm.trans ((congrArg f324 z).trans hnq339)) (by simp)
  have n341 : q9 ≠ q339 := fun z => absurd (h326.symm.trans ((congrArg f324 z).trans hnq339)) (by simp)
  have n342 : q20 ≠ q339 := fun z => absurd (h327.symm.trans ((congrArg f324 z).trans hnq339)) (by simp)
  have n343 : q34 ≠ q339 := fun z => absurd (h328.symm.trans ((congrArg f324 z).trans hnq339)) (by simp)
  have n344 : q51 ≠ q339 := fun z => absurd (h329.symm.trans ((congrArg f324 z).trans hnq339)) (by simp)
  have n345 : q71 ≠ q339 := fun z => absurd (h330.symm.trans ((congrArg f324 z).trans hnq339)) (by simp)
  have n346 : q94 ≠ q339 := fun z => absurd (h331.symm.trans ((congrArg f324 z).trans hnq339)) (by simp)
  have n347 : q120 ≠ q339 := fun z => absurd (h332.symm.trans ((congrArg f324 z).trans hnq339)) (by simp)
  have n348 : q149 ≠ q339 := fun z => absurd (h333.symm.trans ((congrArg f324 z).trans hnq339)) (by simp)
  have n349 : q181 ≠ q339 := fun z => absurd (h334.symm.trans ((congrArg f324 z).trans hnq339)) (by simp)
  have n350 : q216 ≠ q339 := fun z => absurd (h335.symm.trans ((congrArg f324 z).trans hnq339)) (by simp)
  have n351 : q254 ≠ q339 := fun z => absurd (h336.symm.trans ((congrArg f324 z).trans hnq339)) (by simp)
  have n352 : q295 ≠ q339 := fun z => absurd (h337.symm.trans ((congrArg f324 z).trans hnq339)) (by simp)
  have n353 : h0 ≠ q339 := fun z => absurd (h338.symm.trans ((congrArg f324 z).trans hnq339)) (by simp)
  obtain ⟨f354, ef354⟩ : ∃ z, z = fw_up f324 q339 (.inl (y 0, 20, .inl (fun _ => (0 : Int32)))) := ⟨_, rfl⟩
  have hw : fw_S D A s.heap f354 H locs := by rw [ef354]; exact hw
  have h355 : f354 q1 = some (.inl (y 0, 8, .inl (fun _ => (0 : Int32)))) := by rw [ef354]; exact (fw_up_n n340).trans h325
  have h356 : f354 q9 = some (.inl (y 0, 248, .inl (fun _ => (0 : Int32)))) := by rw [ef354]; exact (fw_up_n n341).trans h326
  have h357 : f354 q20 = some (.inl (y 0, 93, .inl (fun _ => (0 : Int32)))) := by rw [ef354]; exact (fw_up_n n342).trans h327
  have h358 : f354 q34 = some (.inl (y 0, 93, .inl (fun _ => (0 : Int32)))) := by rw [ef354]; exact (fw_up_n n343).trans h328
  have h359 : f354 q51 = some (.inl (y 0, 160, .inl (fun _ => (0 : Int32)))) := by rw [ef354]; exact (fw_up_n n344).trans h329
  have h360 : f354 q71 = some (.inl (y 0, 160, .inl (fun _ => (0 : Int32)))) := by rw [ef354]; exact (fw_up_n n345).trans h330
  have h361 : f354 q94 = some (.inl (y 0, 160, .inl (fun _ => (0 : Int32)))) := by rw [ef354]; exact (fw_up_n n346).trans h331
  have h362 : f354 q120 = some (.inl (y 0, 8, .inl (fun _ => (0 : Int32)))) := by rw [ef354]; exact (fw_up_n n347).trans h332
  have h363 : f354 q149 = some (.inl (y 0, 8, .inl (fun _ => (0 : Int32)))) := by rw [ef354]; exact (fw_up_n n348).trans h333
  have h364 : f354 q181 = some (.inl (y 0, 992, .inl (fun _ => (0 : Int32)))) := by rw [ef354]; exact (fw_up_n n349).trans h334
  have h365 : f354 q216 = some (.inl (y 0, 20, .inl (fun _ => (0 : Int32)))) := by rw [ef354]; exact (fw_up_n n350).trans h335
  have h366 : f354 q254 = some (.inl (y 0, 20, .inl (fun _ => (0 : Int32)))) := by rw [ef354]; exact (fw_up_n n351).trans h336
  have h367 : f354 q295 = some (.inl (y 0, 20, .inl (fun _ => (0 : Int32)))) := by rw [ef354]; exact (fw_up_n n352).trans h337
  have h368 : f354 h0 = some (.inr (9, [.int 0, .int 0, .int 0, .ref q1, .ref q9, .ref q20, .ref q34, .ref q51, .ref q71, .ref q94, .ref q120, .ref q149, .ref q181, .int 0, .ref q216, .ref q254, .ref q295, .null, .int 0, .null, .null, .int 0, .null, .null, .null])) := by rw [ef354]; exact (fw_up_n n353).trans h338
  have h369 : f354 q339 = some (.inl (y 0, 20, .inl (fun _ => (0 : Int32)))) := by rw [ef354]; exact fw_up_s
  refine fw_putF hx hb hts hown hE.1.1 hw (ci := 9) (fs := [.int 0, .int 0, .int 0, .ref q1, .ref q9, .ref q20, .ref q34, .ref q51, .ref q71, .ref q94, .ref q120, .ref q149, .ref q181, .int 0, .ref q216, .ref q254, .ref q295, .null, .int 0, .null, .null, .int 0, .null, .null, .null]) (v := .ref q339) h368 iX9_init_9 tyX9 tyX9_ok nmX9 rfl 17 (by decide) rfl (hin rfl) rfl rfl rfl (Nat.le_of_ble_eq_true rfl) (by decide +kernel) dX9_init_118 (fun H locs hw => ?_)
  obtain ⟨f370, ef370⟩ : ∃ z, z = fw_up f354 h0 (.inr (9, [.int 0, .int 0, .int 0, .ref q1, .ref q9, .ref q20, .ref q34, .ref q51, .ref q71, .ref q94, .ref q120, .ref q149, .ref q181, .int 0, .ref q216, .ref q254, .ref q295, .ref q339, .int 0, .null, .null, .int 0, .null, .null, .null])) := ⟨_, rfl⟩
  have hw : fw_S D A s.heap f370 H locs := by rw [ef370]; exact hw
  have h371 : f370 q1 = some (.inl (y 0, 8, .inl (fun _ => (0 : Int32)))) := by rw [ef370]; exact (fw_up_n (Ne.symm n2)).trans h355
  have h372 : f370 q9 = some (.inl (y 0, 248, .inl (fun _ => (0 : Int32)))) := by rw [ef370]; exact (fw_up_n (Ne.symm n11)).trans h356
  have h373 : f370 q20 = some (.inl (y 0, 93, .inl (fun _ => (0 : Int32)))) := by rw [ef370]; exact (fw_up_n (Ne.symm n23)).trans h357
  have h374 : f370 q34 = some (.inl (y 0, 93, .inl (fun _ => (0 : Int32)))) := by rw [ef370]; exact (fw_up_n (Ne.symm n38)).trans h358
  have h375 : f370 q51 = some (.inl (y 0, 160, .inl (fun _ => (0 : Int32)))) := by rw [ef370]; exact (fw_up_n (Ne.symm n56)).trans h359
  have h376 : f370 q71 = some (.inl (y 0, 160, .inl (fun _ => (0 : Int32)))) := by rw [ef370]; exact (fw_up_n (Ne.symm n77)).trans h360
  have h377 : f370 q94 = some (.inl (y 0, 160, .inl (fun _ => (0 : Int32)))) := by rw [ef370]; exact (fw_up_n (Ne.symm n101)).trans h361
  have h378 : f370 q120 = some (.inl (y 0, 8, .inl (fun _ => (0 : Int32)))) := by rw [ef370]; exact (fw_up_n (Ne.symm n128)).trans h362
  have h379 : f370 q149 = some (.inl (y 0, 8, .inl (fun _ => (0 : Int32)))) := by rw [ef370]; exact (fw_up_n (Ne.symm n158)).trans h363
  have h380 : f370 q181 = some (.inl (y 0, 992, .inl (fun _ => (0 : Int32)))) := by rw [ef370]; exact (fw_up_n (Ne.symm n191)).trans h364
  have h381 : f370 q216 = some (.inl (y 0, 20, .inl (fun _ => (0 : Int32)))) := by rw [ef370]; exact (fw_up_n (Ne.symm n227)).trans h365
  have h382 : f370 q254 = some (.inl (y 0, 20, .inl (fun _ => (0 : Int32)))) := by rw [ef370]; exact (fw_up_n (Ne.symm n266)).trans h366
  have h383 : f370 q295 = some (.inl (y 0, 20, .inl (fun _ => (0 : Int32)))) := by rw [ef370]; exact (fw_up_n (Ne.symm n308)).trans h367
  have h384 : f370 q339 = some (.inl (y 0, 20, .inl (fun _ => (0 : Int32)))) := by rw [ef370]; exact (fw_up_n (Ne.symm n353)).trans h369
  have h385 : f370 h0 = some (.inr (9, [.int 0, .int 0, .int 0, .ref q1, .ref q9, .ref q20, .ref q34, .ref q51, .ref q71, .ref q94, .ref q120, .ref q149, .ref q181, .int 0, .ref q216, .ref q254, .ref q295, .ref q339, .int 0, .null, .null, .int 0, .null, .null, .null])) := by rw [ef370]; exact fw_up_s
  refine lv_aload_n hx hb dX9_init_121 rfl (lv_at hl 0 rfl) ?_
  refine lv_sipush (v := 20000) hx hb dX9_init_122 (by decide) ?_
  refine fw_put hx hb hts hown hE.1.1 hw (ci := 9) (fs := [.int 0, .int 0, .int 0, .ref q1, .ref q9, .ref q20, .ref q34, .ref q51, .ref q71, .ref q94, .ref q120, .ref q149, .ref q181, .int 0, .ref q216, .ref q254, .ref q295, .ref q339, .int 0, .null, .null, .int 0, .null, .null, .null]) (v := .int 20000) h385 iX9_init_9 tyX9 tyX9_ok nmX9 rfl 18 (by decide) rfl rfl rfl (Nat.le_of_ble_eq_true rfl) (by decide +kernel) dX9_init_125 (fun H locs hw => ?_)
  obtain ⟨f386, ef386⟩ : ∃ z, z = fw_up f370 h0 (.inr (9, [.int 0, .int 0, .int 0, .ref q1, .ref q9, .ref q20, .ref q34, .ref q51, .ref q71, .ref q94, .ref q120, .ref q149, .ref q181, .int 0, .ref q216, .ref q254, .ref q295, .ref q339, .int 20000, .null, .null, .int 0, .null, .null, .null])) := ⟨_, rfl⟩
  have hw : fw_S D A s.heap f386 H locs := by rw [ef386]; exact hw
  have h387 : f386 q1 = some (.inl (y 0, 8, .inl (fun _ => (0 : Int32)))) := by rw [ef386]; exact (fw_up_n (Ne.symm n2)).trans h371
  have h388 : f386 q9 = some (.inl (y 0, 248, .inl (fun _ => (0 : Int32)))) := by rw [ef386]; exact (fw_up_n (Ne.symm n11)).trans h372
  have h389 : f386 q20 = some (.inl (y 0, 93, .inl (fun _ => (0 : Int32)))) := by rw [ef386]; exact (fw_up_n (Ne.symm n23)).trans h373
  have h390 : f386 q34 = some (.inl (y 0, 93, .inl (fun _ => (0 : Int32)))) := by rw [ef386]; exact (fw_up_n (Ne.symm n38)).trans h374
  have h391 : f386 q51 = some (.inl (y 0, 160, .inl (fun _ => (0 : Int32)))) := by rw [ef386]; exact (fw_up_n (Ne.symm n56)).trans h375
  have h392 : f386 q71 = some (.inl (y 0, 160, .inl (fun _ => (0 : Int32)))) := by rw [ef386]; exact (fw_up_n (Ne.symm n77)).trans h376
  have h393 : f386 q94 = some (.inl (y 0, 160, .inl (fun _ => (0 : Int32)))) := by rw [ef386]; exact (fw_up_n (Ne.symm n101)).trans h377
  have h394 : f386 q120 = some (.inl (y 0, 8, .inl (fun _ => (0 : Int32)))) := by rw [ef386]; exact (fw_up_n (Ne.symm n128)).trans h378
  have h395 : f386 q149 = some (.inl (y 0, 8, .inl (fun _ => (0 : Int32)))) := by rw [ef386]; exact (fw_up_n (Ne.symm n158)).trans h379
  have h396 : f386 q181 = some (.inl (y 0, 992, .inl (fun _ => (0 : Int32)))) := by rw [ef386]; exact (fw_up_n (Ne.symm n191)).trans h380
  have h397 : f386 q216 = some (.inl (y 0, 20, .inl (fun _ => (0 : Int32)))) := by rw [ef386]; exact (fw_up_n (Ne.symm n227)).trans h381
  have h398 : f386 q254 = some (.inl (y 0, 20, .inl (fun _ => (0 : Int32)))) := by rw [ef386]; exact (fw_up_n (Ne.symm n266)).trans h382
  have h399 : f386 q295 = some (.inl (y 0, 20, .inl (fun _ => (0 : Int32)))) := by rw [ef386]; exact (fw_up_n (Ne.symm n308)).trans h383
  have h400 : f386 q339 = some (.inl (y 0, 20, .inl (fun _ => (0 : Int32)))) := by rw [ef386]; exact (fw_up_n (Ne.symm n353)).trans h384
  have h401 : f386 h0 = some (.inr (9, [.int 0, .int 0, .int 0, .ref q1, .ref q9, .ref q20, .ref q34, .ref q51, .ref q71, .ref q94, .ref q120, .ref q149, .ref q181, .int 0, .ref q216, .ref q254, .ref q295, .ref q339, .int 20000, .null, .null, .int 0, .null, .null, .null])) := by rw [ef386]; exact fw_up_s
  refine lv_aload_n hx hb dX9_init_128 rfl (lv_at hl 0 rfl) ?_
  refine lv_iconst (v := 3) hx hb dX9_init_129 (by decide) ?_
  refine fw_newI hx hb hts hE.1.1 hw hE.2.1 (by decide +kernel) 0 rfl (N := 3) (by decide) rfl (by decide) (Nat.le_of_ble_eq_true rfl) (Nat.le_of_ble_eq_true rfl) dX9_init_130 (fun q402 H hnq402 hw => ?_)
  have hbq402 : f q402 = none := by have z9 := hnq402; rw [ef386, ef370, ef354, ef324, ef309, ef281, ef267, ef241, ef228, ef204, ef192, ef170, ef159, ef139, ef129, ef111, ef102, ef86, ef78, ef64, ef57, ef45, ef39, ef29, ef24, ef16, ef12, ef6, ef3] at z9; exact (fw_up_o (fw_up_o (fw_up_o (fw_up_o (fw_up_o (fw_up_o (fw_up_o (fw_up_o (fw_up_o (fw_up_o (fw_up_o (fw_up_o (fw_up_o (fw_up_o (fw_up_o (fw_up_o (fw_up_o (fw_up_o (fw_up_o (fw_up_o (fw_up_o (fw_up_o (fw_up_o (fw_up_o (fw_up_o (fw_up_o (fw_up_o (fw_up_o (fw_up_o z9)))))))))))))))))))))))))))))
  have n403 : q1 ≠ q402 := fun z => absurd (h387.symm.trans ((congrArg f386 z).trans hnq402)) (by simp)
  have n404 : q9 ≠ q402 := fun z => absurd (h388.symm.trans ((congrArg f386 z).trans hnq402)) (by simp)
  have n405 : q20 ≠ q402 := fun z => absurd (h389.symm.trans ((congrArg f386 z).trans hnq402)) (by simp)
  have n406 : q34 ≠ q402 := fun z => absurd (h390.symm.trans ((congrArg f386 z).trans hnq402)) (by simp)
  have n407 : q51 ≠ q402 := fun z => absurd (h391.symm.trans ((congrArg f386 z).trans hnq402)) (by simp)
  have n408 : q71 ≠ q402 := fun z => absurd (h392.symm.trans ((congrArg f386 z).trans hnq402)) (by simp)
  have n409 : q94 ≠ q402 := fun z => absurd (h393.symm.trans ((congrArg f386 z).trans hnq402)) (by simp)
  have n410 : q120 ≠ q402 := fun z => absurd (h394.symm.trans ((congrArg f386 z).trans hnq402)) (by simp)
  have n411 : q149 ≠ q402 := fun z => absurd (h395.symm.trans ((congrArg f386 z).trans hnq402)) (by simp)
  have n412 : q181 ≠ q402 := fun z => absurd (h396.symm.trans ((congrArg f386 z).trans hnq402)) (by simp)
  have n413 : q216 ≠ q402 := fun z => absurd (h397.symm.trans ((congrArg f386 z).trans hnq402)) (by simp)
  have n414 : q254 ≠ q402 := fun z => absurd (h398.symm.trans ((congrArg f386 z).trans hnq402)) (by simp)
  have n415 : q295 ≠ q402 := fun z => absurd (h399.symm.trans ((congrArg f386 z).trans hnq402)) (by simp)
  have n416 : q339 ≠ q402 := fun z => absurd (h400.symm.trans ((congrArg f386 z).trans hnq402)) (by simp)
  have n417 : h0 ≠ q402 := fun z => absurd (h401.symm.trans ((congrArg f386 z).trans hnq402)) (by simp)
  obtain ⟨f418, ef418⟩ : ∃ z, z = fw_up f386 q402 (.inl (y 0, 3, .inl (fun _ => (0 : Int32)))) := ⟨_, rfl⟩
  have hw : fw_S D A s.heap f418 H locs := by rw [ef418]; exact hw
  have h419 : f418 q1 = some (.inl (y 0, 8, .inl (fun _ => (0 : Int32)))) := by rw [ef418]; exact (fw_up_n n403).trans h387
  have h420 : f418 q9 = some (.inl (y 0, 248, .inl (fun _ => (0 : Int32)))) := by rw [ef418]; exact (fw_up_n n404).trans h388
  have h421 : f418 q20 = some (.inl (y 0, 93, .inl (fun _ => (0 : Int32)))) := by rw [ef418]; exact (fw_up_n n405).trans h389
  have h422 : f418 q34 = some (.inl (y 0, 93, .inl (fun _ => (0 : Int32)))) := by rw [ef418]; exact (fw_up_n n406).trans h390
  have h423 : f418 q51 = some (.inl (y 0, 160, .inl (fun _ => (0 : Int32)))) := by rw [ef418]; exact (fw_up_n n407).trans h391
  have h424 : f418 q71 = some (.inl (y 0, 160, .inl (fun _ => (0 : Int32)))) := by rw [ef418]; exact (fw_up_n n408).trans h392
  have h425 : f418 q94 = some (.inl (y 0, 160, .inl (fun _ => (0 : Int32)))) := by rw [ef418]; exact (fw_up_n n409).trans h393
  have h426 : f418 q120 = some (.inl (y 0, 8, .inl (fun _ => (0 : Int32)))) := by rw [ef418]; exact (fw_up_n n410).trans h394
  have h427 : f418 q149 = some (.inl (y 0, 8, .inl (fun _ => (0 : Int32)))) := by rw [ef418]; exact (fw_up_n n411).trans h395
  have h428 : f418 q181 = some (.inl (y 0, 992, .inl (fun _ => (0 : Int32)))) := by rw [ef418]; exact (fw_up_n n412).trans h396
  have h429 : f418 q216 = some (.inl (y 0, 20, .inl (fun _ => (0 : Int32)))) := by rw [ef418]; exact (fw_up_n n413).trans h397
  have h430 : f418 q254 = some (.inl (y 0, 20, .inl (fun _ => (0 : Int32)))) := by rw [ef418]; exact (fw_up_n n414).trans h398
  have h431 : f418 q295 = some (.inl (y 0, 20, .inl (fun _ => (0 : Int32)))) := by rw [ef418]; exact (fw_up_n n415).trans h399
  have h432 : f418 q339 = some (.inl (y 0, 20, .inl (fun _ => (0 : Int32)))) := by rw [ef418]; exact (fw_up_n n416).trans h400
  have h433 : f418 h0 = some (.inr (9, [.int 0, .int 0, .int 0, .ref q1, .ref q9, .ref q20, .ref q34, .ref q51, .ref q71, .ref q94, .ref q120, .ref q149, .ref q181, .int 0, .ref q216, .ref q254, .ref q295, .ref q339, .int 20000, .null, .null, .int 0, .null, .null, .null])) := by rw [ef418]; exact (fw_up_n n417).trans h401
  have h434 : f418 q402 = some (.inl (y 0, 3, .inl (fun _ => (0 : Int32)))) := by rw [ef418]; exact fw_up_s
  refine fw_putF hx hb hts hown hE.1.1 hw (ci := 9) (fs := [.int 0, .int 0, .int 0, .ref q1, .ref q9, .ref q20, .ref q34, .ref q51, .ref q71, .ref q94, .ref q120, .ref q149, .ref q181, .int 0, .ref q216, .ref q254, .ref q295, .ref q339, .int 20000, .null, .null, .int 0, .null, .null, .null]) (v := .ref q402) h433 iX9_init_9 tyX9 tyX9_ok nmX9 rfl 19 (by decide) rfl (hin rfl) rfl rfl rfl (Nat.le_of_ble_eq_true rfl) (by decide +kernel) dX9_init_132 (fun H locs hw => ?_)
  obtain ⟨f435, ef435⟩ : ∃ z, z = fw_up f418 h0 (.inr (9, [.int 0, .int 0, .int 0, .ref q1, .ref q9, .ref q20, .ref q34, .ref q51, .ref q71, .ref q94, .ref q120, .ref q149, .ref q181, .int 0, .ref q216, .ref q254, .ref q295, .ref q339, .int 20000, .ref q402, .null, .int 0, .null, .null, .null])) := ⟨_, rfl⟩
  have hw : fw_S D A s.heap f435 H locs := by rw [ef435]; exact hw
  have h436 : f435 q1 = some (.inl (y 0, 8, .inl (fun _ => (0 : Int32)))) := by rw [ef435]; exact (fw_up_n (Ne.symm n2)).trans h419
  have h437 : f435 q9 = some (.inl (y 0, 248, .inl (fun _ => (0 : Int32)))) := by rw [ef435]; exact (fw_up_n (Ne.symm n11)).trans h420
  have h438 : f435 q20 = some (.inl (y 0, 93, .inl (fun _ => (0 : Int32)))) := by rw [ef435]; exact (fw_up_n (Ne.symm n23)).trans h421
  have h439 : f435 q34 = some (.inl (y 0, 93, .inl (fun _ => (0 : Int32)))) := by rw [ef435]; exact (fw_up_n (Ne.symm n38)).trans h422
  have h440 : f435 q51 = some (.inl (y 0, 160, .inl (fun _ => (0 : Int32)))) := by rw [ef435]; exact (fw_up_n (Ne.symm n56)).trans h423
  have h441 : f435 q71 = some (.inl (y 0, 160, .inl (fun _ => (0 : Int32)))) := by rw [ef435]; exact (fw_up_n (Ne.symm n77)).trans h424
  have h442 : f435 q94 = some (.inl (y 0, 160, .inl (fun _ => (0 : Int32)))) := by rw [ef435]; exact (fw_up_n (Ne.symm n101)).trans h425
  have h443 : f435 q120 = some (.inl (y 0, 8, .inl (fun _ => (0 : Int32)))) := by rw [ef435]; exact (fw_up_n (Ne.symm n128)).trans h426
  have h444 : f435 q149 = some (.inl (y 0, 8, .inl (fun _ => (0 : Int32)))) := by rw [ef435]; exact (fw_up_n (Ne.symm n158)).trans h427
  have h445 : f435 q181 = some (.inl (y 0, 992, .inl (fun _ => (0 : Int32)))) := by rw [ef435]; exact (fw_up_n (Ne.symm n191)).trans h428
  have h446 : f435 q216 = some (.inl (y 0, 20, .inl (fun _ => (0 : Int32)))) := by rw [ef435]; exact (fw_up_n (Ne.symm n227)).trans h429
  have h447 : f435 q254 = some (.inl (y 0, 20, .inl (fun _ => (0 : Int32)))) := by rw [ef435]; exact (fw_up_n (Ne.symm n266)).trans h430
  have h448 : f435 q295 = some (.inl (y 0, 20, .inl (fun _ => (0 : Int32)))) := by rw [ef435]; exact (fw_up_n (Ne.symm n308)).trans h431
  have h449 : f435 q339 = some (.inl (y 0, 20, .inl (fun _ => (0 : Int32)))) := by rw [ef435]; exact (fw_up_n (Ne.symm n353)).trans h432
  have h450 : f435 q402 = some (.inl (y 0, 3, .inl (fun _ => (0 : Int32)))) := by rw [ef435]; exact (fw_up_n (Ne.symm n417)).trans h434
  have h451 : f435 h0 = some (.inr (9, [.int 0, .int 0, .int 0, .ref q1, .ref q9, .ref q20, .ref q34, .ref q51, .ref q71, .ref q94, .ref q120, .ref q149, .ref q181, .int 0, .ref q216, .ref q254, .ref q295, .ref q339, .int 20000, .ref q402, .null, .int 0, .null, .null, .null])) := by rw [ef435]; exact fw_up_s
  refine lv_aload_n hx hb dX9_init_135 rfl (lv_at hl 0 rfl) ?_
  refine lv_iconst (v := 3) hx hb dX9_init_136 (by decide) ?_
  refine fw_newI hx hb hts hE.1.1 hw hE.2.1 (by decide +kernel) 0 rfl (N := 3) (by decide) rfl (by decide) (Nat.le_of_ble_eq_true rfl) (Nat.le_of_ble_eq_true rfl) dX9_init_137 (fun q452 H hnq452 hw => ?_)
  have hbq452 : f q452 = none := by have z9 := hnq452; rw [ef435, ef418, ef386, ef370, ef354, ef324, ef309, ef281, ef267, ef241, ef228, ef204, ef192, ef170, ef159, ef139, ef129, ef111, ef102, ef86, ef78, ef64, ef57, ef45, ef39, ef29, ef24, ef16, ef12, ef6, ef3] at z9; exact (fw_up_o (fw_up_o (fw_up_o (fw_up_o (fw_up_o (fw_up_o (fw_up_o (fw_up_o (fw_up_o (fw_up_o (fw_up_o (fw_up_o (fw_up_o (fw_up_o (fw_up_o (fw_up_o (fw_up_o (fw_up_o (fw_up_o (fw_up_o (fw_up_o (fw_up_o (fw_up_o (fw_up_o (fw_up_o (fw_up_o (fw_up_o (fw_up_o (fw_up_o (fw_up_o (fw_up_o z9)))))))))))))))))))))))))))))))
  have n453 : q1 ≠ q452 := fun z => absurd (h436.symm.trans ((congrArg f435 z).trans hnq452)) (by simp)
  have n454 : q9 ≠ q452 := fun z => absurd (h437.symm.trans ((congrArg f435 z).trans hnq452)) (by simp)
  have n455 : q20 ≠ q452 := fun z => absurd (h438.symm.trans ((congrArg f435 z).trans hnq452)) (by simp)
  have n456 : q34 ≠ q452 := fun z => absurd (h439.symm.trans ((congrArg f435 z).trans hnq452)) (by simp)
  have n457 : q51 ≠ q452 := fun z => absurd (h440.symm.trans ((congrArg f435 z).trans hnq452)) (by simp)
  have n458 : q71 ≠ q452 := fun z => absurd (h441.symm.trans ((congrArg f435 z).trans hnq452)) (by simp)
  have n459 : q94 ≠ q452 := fun z => absurd (h442.symm.trans ((congrArg f435 z).trans hnq452)) (by simp)
  have n460 : q120 ≠ q452 := fun z => absurd (h443.symm.trans ((congrArg f435 z).trans hnq452)) (by simp)
  have n461 : q149 ≠ q452 := fun z => absurd (h444.symm.trans ((congrArg f435 z).trans hnq452)) (by simp)
  have n462 : q181 ≠ q452 := fun z => absurd (h445.symm.trans ((congrArg f435 z).trans hnq452)) (by simp)
  have n463 : q216 ≠ q452 := fun z => absurd (h446.symm.trans ((congrArg f435 z).trans hnq452)) (by simp)
  have n464 : q254 ≠ q452 := fun z => absurd (h447.symm.trans ((congrArg f435 z).trans hnq452)) (by simp)
  have n465 : q295 ≠ q452 := fun z => absurd (h448.symm.trans ((congrArg f435 z).trans hnq452)) (by simp)
  have n466 : q339 ≠ q452 := fun z => absurd (h449.symm.trans ((congrArg f435 z).trans hnq452)) (by simp)
  have n467 : q402 ≠ q452 := fun z => absurd (h450.symm.trans ((congrArg f435 z).trans hnq452)) (by simp)
  have n468 : h0 ≠ q452 := fun z => absurd (h451.symm.trans ((congrArg f435 z).trans hnq452)) (by simp)
  obtain ⟨f469, ef469⟩ : ∃ z, z = fw_up f435 q452 (.inl (y 0, 3, .inl (fun _ => (0 : Int32)))) := ⟨_, rfl⟩
  have hw : fw_S D A s.heap f469 H locs := by rw [ef469]; exact hw
  have h470 : f469 q1 = some (.inl (y 0, 8, .inl (fun _ => (0 : Int32)))) := by rw [ef469]; exact (fw_up_n n453).trans h436
  have h471 : f469 q9 = some (.inl (y 0, 248, .inl (fun _ => (0 : Int32)))) := by rw [ef469]; exact (fw_up_n n454).trans h437
  have h472 : f469 q20 = some (.inl (y 0, 93, .inl (fun _ => (0 : Int32)))) := by rw [ef469]; exact (fw_up_n n455).trans h438
  have h473 : f469 q34 = some (.inl (y 0, 93, .inl (fun _ => (0 : Int32)))) := by rw [ef469]; exact (fw_up_n n456).trans h439
  have h474 : f469 q51 = some (.inl (y 0, 160, .inl (fun _ => (0 : Int32)))) := by rw [ef469]; exact (fw_up_n n457).trans h440
  have h475 : f469 q71 = some (.inl (y 0, 160, .inl (fun _ => (0 : Int32)))) := by rw [ef469]; exact (fw_up_n n458).trans h441
  have h476 : f469 q94 = some (.inl (y 0, 160, .inl (fun _ => (0 : Int32)))) := by rw [ef469]; exact (fw_up_n n459).trans h442
  have h477 : f469 q120 = some (.inl (y 0, 8, .inl (fun _ => (0 : Int32)))) := by rw [ef469]; exact (fw_up_n n460).trans h443
  have h478 : f469 q149 = some (.inl (y 0, 8, .inl (fun _ => (0 : Int32)))) := by rw [ef469]; exact (fw_up_n n461).trans h444
  have h479 : f469 q181 = some (.inl (y 0, 992, .inl (fun _ => (0 : Int32)))) := by rw [ef469]; exact (fw_up_n n462).trans h445
  have h480 : f469 q216 = some (.inl (y 0, 20, .inl (fun _ => (0 : Int32)))) := by rw [ef469]; exact (fw_up_n n463).trans h446
  have h481 : f469 q254 = some (.inl (y 0, 20, .inl (fun _ => (0 : Int32)))) := by rw [ef469]; exact (fw_up_n n464).trans h447
  have h482 : f469 q295 = some (.inl (y 0, 20, .inl (fun _ => (0 : Int32)))) := by rw [ef469]; exact (fw_up_n n465).trans h448
  have h483 : f469 q339 = some (.inl (y 0, 20, .inl (fun _ => (0 : Int32)))) := by rw [ef469]; exact (fw_up_n n466).trans h449
  have h484 : f469 q402 = some (.inl (y 0, 3, .inl (fun _ => (0 : Int32)))) := by rw [ef469]; exact (fw_up_n n467).trans h450
  have h485 : f469 h0 = some (.inr (9, [.int 0, .int 0, .int 0, .ref q1, .ref q9, .ref q20, .ref q34, .ref q51, .ref q71, .ref q94, .ref q120, .ref q149, .ref q181, .int 0, .ref q216, .ref q254, .ref q295, .ref q339, .int 20000, .ref q402, .null, .int 0, .null, .null, .null])) := by rw [ef469]; exact (fw_up_n n468).trans h451
  have h486 : f469 q452 = some (.inl (y 0, 3, .inl (fun _ => (0 : Int32)))) := by rw [ef469]; exact fw_up_s
  refine fw_putF hx hb hts hown hE.1.1 hw (ci := 9) (fs := [.int 0, .int 0, .int 0, .ref q1, .ref q9, .ref q20, .ref q34, .ref q51, .ref q71, .ref q94, .ref q120, .ref q149, .ref q181, .int 0, .ref q216, .ref q254, .ref q295, .ref q339, .int 20000, .ref q402, .null, .int 0, .null, .null, .null]) (v := .ref q452) h485 iX9_init_9 tyX9 tyX9_ok nmX9 rfl 20 (by decide) rfl (hin rfl) rfl rfl rfl (Nat.le_of_ble_eq_true rfl) (by decide +kernel) dX9_init_139 (fun H locs hw => ?_)
  obtain ⟨f487, ef487⟩ : ∃ z, z = fw_up f469 h0 (.inr (9, [.int 0, .int 0, .int 0, .ref q1, .ref q9, .ref q20, .ref q34, .ref q51, .ref q71, .ref q94, .ref q120, .ref q149, .ref q181, .int 0, .ref q216, .ref q254, .ref q295, .ref q339, .int 20000, .ref q402, .ref q452, .int 0, .null, .null, .null])) := ⟨_, rfl⟩
  have hw : fw_S D A s.heap f487 H locs := by rw [ef487]; exact hw
  have h488 : f487 q1 = some (.inl (y 0, 8, .inl (fun _ => (0 : Int32)))) := by rw [ef487]; exact (fw_up_n (Ne.symm n2)).trans h470
  have h489 : f487 q9 = some (.inl (y 0, 248, .inl (fun _ => (0 : Int32)))) := by rw [ef487]; exact (fw_up_n (Ne.symm n11)).trans h471
  have h490 : f487 q20 = some (.inl (y 0, 93, .inl (fun _ => (0 : Int32)))) := by rw [ef487]; exact (fw_up_n (Ne.symm n23)).trans h472
  have h491 : f487 q34 = some (.inl (y 0, 93, .inl (fun _ => (0 : Int32)))) := by rw [ef487]; exact (fw_up_n (Ne.symm n38)).trans h473
  have h492 : f487 q51 = some (.inl (y 0, 160, .inl (fun _ => (0 : Int32)))) := by rw [ef487]; exact (fw_up_n (Ne.symm n56)).trans h474
  have h493 : f487 q71 = some (.inl (y 0, 160, .inl (fun _ => (0 : Int32)))) := by rw [ef487]; exact (fw_up_n (Ne.symm n77)).trans h475
  have h494 : f487 q94 = some (.inl (y 0, 160, .inl (fun _ => (0 : Int32)))) := by rw [ef487]; exact (fw_up_n (Ne.symm n101)).trans h476
  have h495 : f487 q120 = some (.inl (y 0, 8, .inl (fun _ => (0 : Int32)))) := by rw [ef487]; exact (fw_up_n (Ne.symm n128)).trans h477
  have h496 : f487 q149 = some (.inl (y 0, 8, .inl (fun _ => (0 : Int32)))) := by rw [ef487]; exact (fw_up_n (Ne.symm n158)).trans h478
  have h497 : f487 q181 = some (.inl (y 0, 992, .inl (fun _ => (0 : Int32)))) := by rw [ef487]; exact (fw_up_n (Ne.symm n191)).trans h479
  have h498 : f487 q216 = some (.inl (y 0, 20, .inl (fun _ => (0 : Int32)))) := by rw [ef487]; exact (fw_up_n (Ne.symm n227)).trans h480
  have h499 : f487 q254 = some (.inl (y 0, 20, .inl (fun _ => (0 : Int32)))) := by rw [ef487]; exact (fw_up_n (Ne.symm n266)).trans h481
  have h500 : f487 q295 = some (.inl (y 0, 20, .inl (fun _ => (0 : Int32)))) := by rw [ef487]; exact (fw_up_n (Ne.symm n308)).trans h482
  have h501 : f487 q339 = some (.inl (y 0, 20, .inl (fun _ => (0 : Int32)))) := by rw [ef487]; exact (fw_up_n (Ne.symm n353)).trans h483
  have h502 : f487 q402 = some (.inl (y 0, 3, .inl (fun _ => (0 : Int32)))) := by rw [ef487]; exact (fw_up_n (Ne.symm n417)).trans h484
  have h503 : f487 q452 = some (.inl (y 0, 3, .inl (fun _ => (0 : Int32)))) := by rw [ef487]; exact (fw_up_n (Ne.symm n468)).trans h486
  have h504 : f487 h0 = some (.inr (9, [.int 0, .int 0, .int 0, .ref q1, .ref q9, .ref q20, .ref q34, .ref q51, .ref q71, .ref q94, .ref q120, .ref q149, .ref q181, .int 0, .ref q216, .ref q254, .ref q295, .ref q339, .int 20000, .ref q402, .ref q452, .int 0, .null, .null, .null])) := by rw [ef487]; exact fw_up_s
  refine lv_aload_n hx hb dX9_init_142 rfl (lv_at hl 0 rfl) ?_
  refine lv_bipush (v := 40) hx hb dX9_init_143 (by decide) ?_
  refine fw_newI hx hb hts hE.1.1 hw hE.2.1 (by decide +kernel) 0 rfl (N := 40) (by decide) rfl (by decide) (Nat.le_of_ble_eq_true rfl) (Nat.le_of_ble_eq_true rfl) dX9_init_145 (fun q505 H hnq505 hw => ?_)
  have hbq505 : f q505 = none := by have z9 := hnq505; rw [ef487, ef469, ef435, ef418, ef386, ef370, ef354, ef324, ef309, ef281, ef267, ef241, ef228, ef204, ef192, ef170, ef159, ef139, ef129, ef111, ef102, ef86, ef78, ef64, ef57, ef45, ef39, ef29, ef24, ef16, ef12, ef6, ef3] at z9; exact (fw_up_o (fw_up_o (fw_up_o (fw_up_o (fw_up_o (fw_up_o (fw_up_o (fw_up_o (fw_up_o (fw_up_o (fw_up_o (fw_up_o (fw_up_o (fw_up_o (fw_up_o (fw_up_o (fw_up_o (fw_up_o (fw_up_o (fw_up_o (fw_up_o (fw_up_o (fw_up_o (fw_up_o (fw_up_o (fw_up_o (fw_up_o (fw_up_o (fw_up_o (fw_up_o (fw_up_o (fw_up_o (fw_up_o z9)))))))))))))))))))))))))))))))))
  have n506 : q1 ≠ q505 := fun z => absurd (h488.symm.trans ((congrArg f487 z).trans hnq505)) (by simp)
  have n507 : q9 ≠ q505 := fun z => absurd (h489.symm.trans ((congrArg f487 z).trans hnq505)) (by simp)
  have n508 : q20 ≠ q505 := fun z => absurd (h490.symm.trans ((congrArg f487 z).trans hnq505)) (by simp)
  have n509 : q34 ≠ q505 := fun z => absurd (h491.symm.trans ((congrArg f487 z).trans hnq505)) (by simp)
  have n510 : q51 ≠ q505 := fun z => absurd (h492.symm.trans ((congrArg f487 z).trans hnq505)) (by simp)
  have n511 : q71 ≠ q505 := fun z => absurd (h493.symm.trans ((congrArg f487 z).trans hnq505)) (by simp)
  have n512 : q94 ≠ q505 := fun z => absurd (h494.symm.trans ((congrArg f487 z).trans hnq505)) (by simp)
  have n513 : q120 ≠ q505 := fun z => absurd (h495.symm.trans ((congrArg f487 z).trans hnq505)) (by simp)
  have n514 : q149 ≠ q505 := fun z => absurd (h496.symm.trans ((congrArg f487 z).trans hnq505)) (by simp)
  have n515 : q181 ≠ q505 := fun z => absurd (h497.symm.trans ((congrArg f487 z).trans hnq505)) (by simp)
  have n516 : q216 ≠ q505 := fun z => absurd (h498.symm.trans ((congrArg f487 z).trans hnq505)) (by simp)
  have n517 : q254 ≠ q505 := fun z => absurd (h499.symm.trans ((congrArg f487 z).trans hnq505)) (by simp)
  have n518 : q295 ≠ q505 := fun z => absurd (h500.symm.trans ((congrArg f487 z).trans hnq505)) (by simp)
  have n519 : q339 ≠ q505 := fun z => absurd (h501.symm.trans ((congrArg f487 z).trans hnq505)) (by simp)
  have n520 : q402 ≠ q505 := fun z => absurd (h502.symm.trans ((congrArg f487 z).trans hnq505)) (by simp)
  have n521 : q452 ≠ q505 := fun z => absurd (h503.symm.trans ((congrArg f487 z).trans hnq505)) (by simp)
  have n522 : h0 ≠ q505 := fun z => absurd (h504.symm.trans ((congrArg f487 z).trans hnq505)) (by simp)
  obtain ⟨f523, ef523⟩ : ∃ z, z = fw_up f487 q505 (.inl (y 0, 40, .inl (fun _ => (0 : Int32)))) := ⟨_, rfl⟩
  have hw : fw_S D A s.heap f523 H locs := by rw [ef523]; exact hw
  have h524 : f523 q1 = some (.inl (y 0, 8, .inl (fun _ => (0 : Int32)))) := by rw [ef523]; exact (fw_up_n n506).trans h488
  have h525 : f523 q9 = some (.inl (y 0, 248, .inl (fun _ => (0 : Int32)))) := by rw [ef523]; exact (fw_up_n n507).trans h489
  have h526 : f523 q20 = some (.inl (y 0, 93, .inl (fun _ => (0 : Int32)))) := by rw [ef523]; exact (fw_up_n n508).trans h490
  have h527 : f523 q34 = some (.inl (y 0, 93, .inl (fun _ => (0 : Int32)))) := by rw [ef523]; exact (fw_up_n n509).trans h491
  have h528 : f523 q51 = some (.inl (y 0, 160, .inl (fun _ => (0 : Int32)))) := by rw [ef523]; exact (fw_up_n n510).trans h492
  have h529 : f523 q71 = some (.inl (y 0, 160, .inl (fun _ => (0 : Int32)))) := by rw [ef523]; exact (fw_up_n n511).trans h493
  have h530 : f523 q94 = some (.inl (y 0, 160, .inl (fun _ => (0 : Int32)))) := by rw [ef523]; exact (fw_up_n n512).trans h494
  have h531 : f523 q120 = some (.inl (y 0, 8, .inl (fun _ => (0 : Int32)))) := by rw [ef523]; exact (fw_up_n n513).trans h495
  have h532 : f523 q149 = some (.inl (y 0, 8, .inl (fun _ => (0 : Int32)))) := by rw [ef523]; exact (fw_up_n n514).trans h496
  have h533 : f523 q181 = some (.inl (y 0, 992, .inl (fun _ => (0 : Int32)))) := by rw [ef523]; exact (fw_up_n n515).trans h497
  have h534 : f523 q216 = some (.inl (y 0, 20, .inl (fun _ => (0 : Int32)))) := by rw [ef523]; exact (fw_up_n n516).trans h498
  have h535 : f523 q254 = some (.inl (y 0, 20, .inl (fun _ => (0 : Int32)))) := by rw [ef523]; exact (fw_up_n n517).trans h499
  have h536 : f523 q295 = some (.inl (y 0, 20, .inl (fun _ => (0 : Int32)))) := by rw [ef523]; exact (fw_up_n n518).trans h500
  have h537 : f523 q339 = some (.inl (y 0, 20, .inl (fun _ => (0 : Int32)))) := by rw [ef523]; exact (fw_up_n n519).trans h501
  have h538 : f523 q402 = some (.inl (y 0, 3, .inl (fun _ => (0 : Int32)))) := by rw [ef523]; exact (fw_up_n n520).trans h502
  have h539 : f523 q452 = some (.inl (y 0, 3, .inl (fun _ => (0 : Int32)))) := by rw [ef523]; exact (fw_up_n n521).trans h503
  have h540 : f523 h0 = some (.inr (9, [.int 0, .int 0, .int 0, .ref q1, .ref q9, .ref q20, .ref q34, .ref q51, .ref q71, .ref q94, .ref q120, .ref q149, .ref q181, .int 0, .ref q216, .ref q254, .ref q295, .ref q339, .int 20000, .ref q402, .ref q452, .int 0, .null, .null, .null])) := by rw [ef523]; exact (fw_up_n n522).trans h504
  have h541 : f523 q505 = some (.inl (y 0, 40, .inl (fun _ => (0 : Int32)))) := by rw [ef523]; exact fw_up_s
  refine fw_putF hx hb hts hown hE.1.1 hw (ci := 9) (fs := [.int 0, .int 0, .int 0, .ref q1, .ref q9, .ref q20, .ref q34, .ref q51, .ref q71, .ref q94, .ref q120, .ref q149, .ref q181, .int 0, .ref q216, .ref q254, .ref q295, .ref q339, .int 20000, .ref q402, .ref q452, .int 0, .null, .null, .null]) (v := .ref q505) h540 iX9_init_9 tyX9 tyX9_ok nmX9 rfl 22 (by decide) rfl (hin rfl) rfl rfl rfl (Nat.le_of_ble_eq_true rfl) (by decide +kernel) dX9_init_147 (fun H locs hw => ?_)
  obtain ⟨f542, ef542⟩ : ∃ z, z = fw_up f523 h0 (.inr (9, [.int 0, .int 0, .int 0, .ref q1, .ref q9, .ref q20, .ref q34, .ref q51, .ref q71, .ref q94, .ref q120, .ref q149, .ref q181, .int 0, .ref q216, .ref q254, .ref q295, .ref q339, .int 20000, .ref q402, .ref q452, .int 0, .ref q505, .null, .null])) := ⟨_, rfl⟩
  have hw : fw_S D A s.heap f542 H locs := by rw [ef542]; exact hw
  have h543 : f542 q1 = some (.inl (y 0, 8, .inl (fun _ => (0 : Int32)))) := by rw [ef542]; exact (fw_up_n (Ne.symm n2)).trans h524
  have h544 : f542 q9 = some (.inl (y 0, 248, .inl (fun _ => (0 : Int32)))) := by rw [ef542]; exact (fw_up_n (Ne.symm n11)).trans h525
  have h545 : f542 q20 = some (.inl (y 0, 93, .inl (fun _ => (0 : Int32)))) := by rw [ef542]; exact (fw_up_n (Ne.symm n23)).trans h526
  have h546 : f542 q34 = some (.inl (y 0, 93, .inl (fun _ => (0 : Int32)))) := by rw [ef542]; exact (fw_up_n (Ne.symm n38)).trans h527
  have h547 : f542 q51 = some (.inl (y 0, 160, .inl (fun _ => (0 : Int32)))) := by rw [ef542]; exact (fw_up_n (Ne.symm n56)).trans h528
  have h548 : f542 q71 = some (.inl (y 0, 160, .inl (fun _ => (0 : Int32)))) := by rw [ef542]; exact (fw_up_n (Ne.symm n77)).trans h529
  have h549 : f542 q94 = some (.inl (y 0, 160, .inl (fun _ => (0 : Int32)))) := by rw [ef542]; exact (fw_up_n (Ne.symm n101)).trans h530
  have h550 : f542 q120 = some (.inl (y 0, 8, .inl (fun _ => (0 : Int32)))) := by rw [ef542]; exact (fw_up_n (Ne.symm n128)).trans h531
  have h551 : f542 q149 = some (.inl (y 0, 8, .inl (fun _ => (0 : Int32)))) := by rw [ef542]; exact (fw_up_n (Ne.symm n158)).trans h532
  have h552 : f542 q181 = some (.inl (y 0, 992, .inl (fun _ => (0 : Int32)))) := by rw [ef542]; exact (fw_up_n (Ne.symm n191)).trans h533
  have h553 : f542 q216 = some (.inl (y 0, 20, .inl (fun _ => (0 : Int32)))) := by rw [ef542]; exact (fw_up_n (Ne.symm n227)).trans h534
  have h554 : f542 q254 = some (.inl (y 0, 20, .inl (fun _ => (0 : Int32)))) := by rw [ef542]; exact (fw_up_n (Ne.symm n266)).trans h535
  have h555 : f542 q295 = some (.inl (y 0, 20, .inl (fun _ => (0 : Int32)))) := by rw [ef542]; exact (fw_up_n (Ne.symm n308)).trans h536
  have h556 : f542 q339 = some (.inl (y 0, 20, .inl (fun _ => (0 : Int32)))) := by rw [ef542]; exact (fw_up_n (Ne.symm n353)).trans h537
  have h557 : f542 q402 = some (.inl (y 0, 3, .inl (fun _ => (0 : Int32)))) := by rw [ef542]; exact (fw_up_n (Ne.symm n417)).trans h538
  have h558 : f542 q452 = some (.inl (y 0, 3, .inl (fun _ => (0 : Int32)))) := by rw [ef542]; exact (fw_up_n (Ne.symm n468)).trans h539
  have h559 : f542 q505 = some (.inl (y 0, 40, .inl (fun _ => (0 : Int32)))) := by rw [ef542]; exact (fw_up_n (Ne.symm n522)).trans h541
  have h560 : f542 h0 = some (.inr (9, [.int 0, .int 0, .int 0, .ref q1, .ref q9, .ref q20, .ref q34, .ref q51, .ref q71, .ref q94, .ref q120, .ref q149, .ref q181, .int 0, .ref q216, .ref q254, .ref q295, .ref q339, .int 20000, .ref q402, .ref q452, .int 0, .ref q505, .null, .null])) := by rw [ef542]; exact fw_up_s
  refine lv_aload_n hx hb dX9_init_150 rfl (lv_at hl 0 rfl) ?_
  refine lv_bipush (v := 40) hx hb dX9_init_151 (by decide) ?_
  refine fw_newI hx hb hts hE.1.1 hw hE.2.1 (by decide +kernel) 0 rfl (N := 40) (by decide) rfl (by decide) (Nat.le_of_ble_eq_true rfl) (Nat.le_of_ble_eq_true rfl) dX9_init_153 (fun q561 H hnq561 hw => ?_)
  have hbq561 : f q561 = none := by have z9 := hnq561; rw [ef542, ef523, ef487, ef469, ef435, ef418, ef386, ef370, ef354, ef324, ef309, ef281, ef267, ef241, ef228, ef204, ef192, ef170, ef159, ef139, ef129, ef111, ef102, ef86, ef78, ef64, ef57, ef45, ef39, ef29, ef24, ef16, ef12, ef6, ef3] at z9; exact (fw_up_o (fw_up_o (fw_up_o (fw_up_o (fw_up_o (fw_up_o (fw_up_o (fw_up_o (fw_up_o (fw_up_o (fw_up_o (fw_up_o (fw_up_o (fw_up_o (fw_up_o (fw_up_o (fw_up_o (fw_up_o (fw_up_o (fw_up_o (fw_up_o (fw_up_o (fw_up_o (fw_up_o (fw_up_o (fw_up_o (fw_up_o (fw_up_o (fw_up_o (fw_up_o (fw_up_o (fw_up_o (fw_up_o (fw_up_o (fw_up_o z9)))))))))))))))))))))))))))))))))))
  have n562 : q1 ≠ q561 := fun z => absurd (h543.symm.trans ((congrArg f542 z).trans hnq561)) (by simp)
  have n563 : q9 ≠ q561 := fun z => absurd (h544.symm.trans ((congrArg f542 z).trans hnq561)) (by simp)
  have n564 : q20 ≠ q561 := fun z => absurd (h545.symm.trans ((congrArg f542 z).trans hnq561)) (by simp)
  have n565 : q34 ≠ q561 := fun z => absurd (h546.symm.trans ((congrArg f542 z).trans hnq561)) (by simp)
  have n566 : q51 ≠ q561 := fun z => absurd (h547.symm.trans ((congrArg f542 z).trans hnq561)) (by simp)
  have n567 : q71 ≠ q561 := fun z => absurd (h548.symm.trans ((congrArg f542 z).trans hnq561)) (by simp)
  have n568 : q94 ≠ q561 := fun z => absurd (h549.symm.trans ((congrArg f542 z).trans hnq561)) (by simp)
  have n569 : q120 ≠ q561 := fun z => absurd (h550.symm.trans ((congrArg f542 z).trans hnq561)) (by simp)
  have n570 : q149 ≠ q561 := fun z => absurd (h551.symm.trans ((congrArg f542 z).trans hnq561)) (by simp)
  have n571 : q181 ≠ q561 := fun z => absurd (h552.symm.trans ((congrArg f542 z).trans hnq561)) (by simp)
  have n572 : q216 ≠ q561 := fun z => absurd (h553.symm.trans ((congrArg f542 z).trans hnq561)) (by simp)
  have n573 : q254 ≠ q561 := fun z => absurd (h554.symm.trans ((congrArg f542 z).trans hnq561)) (by simp)
  have n574 : q295 ≠ q561 := fun z => absurd (h555.symm.trans ((congrArg f542 z).trans hnq561)) (by simp)
  have n575 : q339 ≠ q561 := fun z => absurd (h556.symm.trans ((congrArg f542 z).trans hnq561)) (by simp)
  have n576 : q402 ≠ q561 := fun z => absurd (h557.symm.trans ((congrArg f542 z).trans hnq561)) (by simp)
  have n577 : q452 ≠ q561 := fun z => absurd (h558.symm.trans ((congrArg f542 z).trans hnq561)) (by simp)
  have n578 : q505 ≠ q561 := fun z => absurd (h559.symm.trans ((congrArg f542 z).trans hnq561)) (by simp)
  have n579 : h0 ≠ q561 := fun z => absurd (h560.symm.trans ((congrArg f542 z).trans hnq561)) (by simp)
  obtain ⟨f580, ef580⟩ : ∃ z, z = fw_up f542 q561 (.inl (y 0, 40, .inl (fun _ => (0 : Int32)))) := ⟨_, rfl⟩
  have hw : fw_S D A s.heap f580 H locs := by rw [ef580]; exact hw
  have h581 : f580 q1 = some (.inl (y 0, 8, .inl (fun _ => (0 : Int32)))) := by rw [ef580]; exact (fw_up_n n562).trans h543
  have h582 : f580 q9 = some (.inl (y 0, 248, .inl (fun _ => (0 : Int32)))) := by rw [ef580]; exact (fw_up_n n563).trans h544
  have h583 : f580 q20 = some (.inl (y 0, 93, .inl (fun _ => (0 : Int32)))) := by rw [ef580]; exact (fw_up_n n564).trans h545
  have h584 : f580 q34 = some (.inl (y 0, 93, .inl (fun _ => (0 : Int32)))) := by rw [ef580]; exact (fw_up_n n565).trans h546
  have h585 : f580 q51 = some (.inl (y 0, 160, .inl (fun _ => (0 : Int32)))) := by rw [ef580]; exact (fw_up_n n566).trans h547
  have h586 : f580 q71 = some (.inl (y 0, 160, .inl (fun _ => (0 : Int32)))) := by rw [ef580]; exact (fw_up_n n567).trans h548
  have h587 : f580 q94 = some (.inl (y 0, 160, .inl (fun _ => (0 : Int32)))) := by rw [ef580]; exact (fw_up_n n568).trans h549
  have h588 : f580 q120 = some (.inl (y 0, 8, .inl (fun _ => (0 : Int32)))) := by rw [ef580]; exact (fw_up_n n569).trans h550
  have h589 : f580 q149 = some (.inl (y 0, 8, .inl (fun _ => (0 : Int32)))) := by rw [ef580]; exact (fw_up_n n570).trans h551
  have h590 : f580 q181 = some (.inl (y 0, 992, .inl (fun _ => (0 : Int32)))) := by rw [ef580]; exact (fw_up_n n571).trans h552
  have h591 : f580 q216 = some (.inl (y 0, 20, .inl (fun _ => (0 : Int32)))) := by rw [ef580]; exact (fw_up_n n572).trans h553
  have h592 : f580 q254 = some (.inl (y 0, 20, .inl (fun _ => (0 : Int32)))) := by rw [ef580]; exact (fw_up_n n573).trans h554
  have h593 : f580 q295 = some (.inl (y 0, 20, .inl (fun _ => (0 : Int32)))) := by rw [ef580]; exact (fw_up_n n574).trans h555
  have h594 : f580 q339 = some (.inl (y 0, 20, .inl (fun _ => (0 : Int32)))) := by rw [ef580]; exact (fw_up_n n575).trans h556
  have h595 : f580 q402 = some (.inl (y 0, 3, .inl (fun _ => (0 : Int32)))) := by rw [ef580]; exact (fw_up_n n576).trans h557
  have h596 : f580 q452 = some (.inl (y 0, 3, .inl (fun _ => (0 : Int32)))) := by rw [ef580]; exact (fw_up_n n577).trans h558
  have h597 : f580 q505 = some (.inl (y 0, 40, .inl (fun _ => (0 : Int32)))) := by rw [ef580]; exact (fw_up_n n578).trans h559
  have h598 : f580 h0 = some (.inr (9, [.int 0, .int 0, .int 0, .ref q1, .ref q9, .ref q20, .ref q34, .ref q51, .ref q71, .ref q94, .ref q120, .ref q149, .ref q181, .int 0, .ref q216, .ref q254, .ref q295, .ref q339, .int 20000, .ref q402, .ref q452, .int 0, .ref q505, .null, .null])) := by rw [ef580]; exact (fw_up_n n579).trans h560
  have h599 : f580 q561 = some (.inl (y 0, 40, .inl (fun _ => (0 : Int32)))) := by rw [ef580]; exact fw_up_s
  refine fw_putF hx hb hts hown hE.1.1 hw (ci := 9) (fs := [.int 0, .int 0, .int 0, .ref q1, .ref q9, .ref q20, .ref q34, .ref q51, .ref q71, .ref q94, .ref q120, .ref q149, .ref q181, .int 0, .ref q216, .ref q254, .ref q295, .ref q339, .int 20000, .ref q402, .ref q452, .int 0, .ref q505, .null, .null]) (v := .ref q561) h598 iX9_init_9 tyX9 tyX9_ok nmX9 rfl 23 (by decide) rfl (hin rfl) rfl rfl rfl (Nat.le_of_ble_eq_true rfl) (by decide +kernel) dX9_init_155 (fun H locs hw => ?_)
  obtain ⟨f600, ef600⟩ : ∃ z, z = fw_up f580 h0 (.inr (9, [.int 0, .int 0, .int 0, .ref q1, .ref q9, .ref q20, .ref q34, .ref q51, .ref q71, .ref q94, .ref q120, .ref q149, .ref q181, .int 0, .ref q216, .ref q254, .ref q295, .ref q339, .int 20000, .ref q402, .ref q452, .int 0, .ref q505, .ref q561, .null])) := ⟨_, rfl⟩
  have hw : fw_S D A s.heap f600 H locs := by rw [ef600]; exact hw
  have h601 : f600 q1 = some (.inl (y 0, 8, .inl (fun _ => (0 : Int32)))) := by rw [ef600]; exact (fw_up_n (Ne.symm n2)).trans h581
  have h602 : f600 q9 = some (.inl (y 0, 248, .inl (fun _ => (0 : Int32)))) := by rw [ef600]; exact (fw_up_n (Ne.symm n11)).trans h582
  have h603 : f600 q20 = some (.inl (y 0, 93, .inl (fun _ => (0 : Int32)))) := by rw [ef600]; exact (fw_up_n (Ne.symm n23)).trans h583
  have h604 : f600 q34 = some (.inl (y 0, 93, .inl (fun _ => (0 : Int32)))) := by rw [ef600]; exact (fw_up_n (Ne.symm n38)).trans h584
  have h605 : f600 q51 = some (.inl (y 0, 160, .inl (fun _ => (0 : Int32)))) := by rw [ef600]; exact (fw_up_n (Ne.symm n56)).trans h585
  have h606 : f600 q71 = some (.inl (y 0, 160, .inl (fun _ => (0 : Int32)))) := by rw [ef600]; exact (fw_up_n (Ne.symm n77)).trans h586
  have h607 : f600 q94 = some (.inl (y 0, 160, .inl (fun _ => (0 : Int32)))) := by rw [ef600]; exact (fw_up_n (Ne.symm n101)).trans h587
  have h608 : f600 q120 = some (.inl (y 0, 8, .inl (fun _ => (0 : Int32)))) := by rw [ef600]; exact (fw_up_n (Ne.symm n128)).trans h588
  have h609 : f600 q149 = some (.inl (y 0, 8, .inl (fun _ => (0 : Int32)))) := by rw [ef600]; exact (fw_up_n (Ne.symm n158)).trans h589
  have h610 : f600 q181 = some (.inl (y 0, 992, .inl (fun _ => (0 : Int32)))) := by rw [ef600]; exact (fw_up_n (Ne.symm n191)).trans h590
  have h611 : f600 q216 = some (.inl (y 0, 20, .inl (fun _ => (0 : Int32)))) := by rw [ef600]; exact (fw_up_n (Ne.symm n227)).trans h591
  have h612 : f600 q254 = some (.inl (y 0, 20, .inl (fun _ => (0 : Int32)))) := by rw [ef600]; exact (fw_up_n (Ne.symm n266)).trans h592
  have h613 : f600 q295 = some (.inl (y 0, 20, .inl (fun _ => (0 : Int32)))) := by rw [ef600]; exact (fw_up_n (Ne.symm n308)).trans h593
  have h614 : f600 q339 = some (.inl (y 0, 20, .inl (fun _ => (0 : Int32)))) := by rw [ef600]; exact (fw_up_n (Ne.symm n353)).trans h594
  have h615 : f600 q402 = some (.inl (y 0, 3, .inl (fun _ => (0 : Int32)))) := by rw [ef600]; exact (fw_up_n (Ne.symm n417)).trans h595
  have h616 : f600 q452 = some (.inl (y 0, 3, .inl (fun _ => (0 : Int32)))) := by rw [ef600]; exact (fw_up_n (Ne.symm n468)).trans h596
  have h617 : f600 q505 = some (.inl (y 0, 40, .inl (fun _ => (0 : Int32)))) := by rw [ef600]; exact (fw_up_n (Ne.symm n522)).trans h597
  have h618 : f600 q561 = some (.inl (y 0, 40, .inl (fun _ => (0 : Int32)))) := by rw [ef600]; exact (fw_up_n (Ne.symm n579)).trans h599
  have h619 : f600 h0 = some (.inr (9, [.int 0, .int 0, .int 0, .ref q1, .ref q9, .ref q20, .ref q34, .ref q51, .ref q71, .ref q94, .ref q120, .ref q149, .ref q181, .int 0, .ref q216, .ref q254, .ref q295, .ref q339, .int 20000, .ref q402, .ref q452, .int 0, .ref q505, .ref q561, .null])) := by rw [ef600]; exact fw_up_s
  refine lv_aload_n hx hb dX9_init_158 rfl (lv_at hl 0 rfl) ?_
  refine lv_bipush (v := 40) hx hb dX9_init_159 (by decide) ?_
  refine fw_newZ hx hb hts hE.1.1 hw hE.2.1 (by decide +kernel) 1 rfl (N := 40) (by decide) rfl (by decide) (Nat.le_of_ble_eq_true rfl) (Nat.le_of_ble_eq_true rfl) dX9_init_161 (fun q620 H hnq620 hw => ?_)
  have hbq620 : f q620 = none := by have z9 := hnq620; rw [ef600, ef580, ef542, ef523, ef487, ef469, ef435, ef418, ef386, ef370, ef354, ef324, ef309, ef281, ef267, ef241, ef228, ef204, ef192, ef170, ef159, ef139, ef129, ef111, ef102, ef86, ef78, ef64, ef57, ef45, ef39, ef29, ef24, ef16, ef12, ef6, ef3] at z9; exact (fw_up_o (fw_up_o (fw_up_o (fw_up_o (fw_up_o (fw_up_o (fw_up_o (fw_up_o (fw_up_o (fw_up_o (fw_up_o (fw_up_o (fw_up_o (fw_up_o (fw_up_o (fw_up_o (fw_up_o (fw_up_o (fw_up_o (fw_up_o (fw_up_o (fw_up_o (fw_up_o (fw_up_o (fw_up_o (fw_up_o (fw_up_o (fw_up_o (fw_up_o (fw_up_o (fw_up_o (fw_up_o (fw_up_o (fw_up_o (fw_up_o (fw_up_o (fw_up_o z9)))))))))))))))))))))))))))))))))))))
  have n621 : q1 ≠ q620 := fun z => absurd (h601.symm.trans ((congrArg f600 z).trans hnq620)) (by simp)
  have n622 : q9 ≠ q620 := fun z => absurd (h602.symm.trans ((congrArg f600 z).trans hnq620)) (by simp)
  have n623 : q20 ≠ q620 := fun z => absurd (h603.symm.trans ((congrArg f600 z).trans hnq620)) (by simp)
  have n624 : q34 ≠ q620 := fun z => absurd (h604.symm.trans ((congrArg f600 z).trans hnq620)) (by simp)
  have n625 : q51 ≠ q620 := fun z => absurd (h605.symm.trans ((congrArg f600 z).trans hnq620)) (by simp)
  have n626 : q71 ≠ q620 := fun z => absurd (h606.symm.trans ((congrArg f600 z).trans hnq620)) (by simp)
  have n627 : q94 ≠ q620 := fun z => absurd (h607.symm.trans ((congrArg f600 z).trans hnq620)) (by simp)
  have n628 : q120 ≠ q620 := fun z => absurd (h608.symm.trans ((congrArg f600 z).trans hnq620)) (by simp)
  have n629 : q149 ≠ q620 := fun z => absurd (h609.symm.trans ((congrArg f600 z).trans hnq620)) (by simp)
  have n630 : q181 ≠ q620 := fun z => absurd (h610.symm.trans ((congrArg f600 z).trans hnq620)) (by simp)
  have n631 : q216 ≠ q620 := fun z => absurd (h611.symm.trans ((congrArg f600 z).trans hnq620)) (by simp)
  have n632 : q254 ≠ q620 := fun z => absurd (h612.symm.trans ((congrArg f600 z).trans hnq620)) (by simp)
  have n633 : q295 ≠ q620 := fun z => absurd (h613.symm.trans ((congrArg f600 z).trans hnq620)) (by simp)
  have n634 : q339 ≠ q620 := fun z => absurd (h614.symm.trans ((congrArg f600 z).trans hnq620)) (by simp)
  have n635 : q402 ≠ q620 := fun z => absurd (h615.symm.trans ((congrArg f600 z).trans hnq620)) (by simp)
  have n636 : q452 ≠ q620 := fun z => absurd (h616.symm.trans ((congrArg f600 z).trans hnq620)) (by simp)
  have n637 : q505 ≠ q620 := fun z => absurd (h617.symm.trans ((congrArg f600 z).trans hnq620)) (by simp)
  have n638 : q561 ≠ q620 := fun z => absurd (h618.symm.trans ((congrArg f600 z).trans hnq620)) (by simp)
  have n639 : h0 ≠ q620 := fun z => absurd (h619.symm.trans ((congrArg f600 z).trans hnq620)) (by simp)
  obtain ⟨f640, ef640⟩ : ∃ z, z = fw_up f600 q620 (.inl (y 1, 40, .inl (fun _ => (0 : Int32)))) := ⟨_, rfl⟩
  have hw : fw_S D A s.heap f640 H locs := by rw [ef640]; exact hw
  have h641 : f640 q1 = some (.inl (y 0, 8, .inl (fun _ => (0 : Int32)))) := by rw [ef640]; exact (fw_up_n n621).trans h601
  have h642 : f640 q9 = some (.inl (y 0, 248, .inl (fun _ => (0 : Int32)))) := by rw [ef640]; exact (fw_up_n n622).trans h602
  have h643 : f640 q20 = some (.inl (y 0, 93, .inl (fun _ => (0 : Int32)))) := by rw [ef640]; exact (fw_up_n n623).trans h603
  have h644 : f640 q34 = some (.inl (y 0, 93, .inl (fun _ => (0 : Int32)))) := by rw [ef640]; exact (fw_up_n n624).trans h604
  have h645 : f640 q51 = some (.inl (y 0, 160, .inl (fun _ => (0 : Int32)))) := by rw [ef640]; exact (fw_up_n n625).trans h605
  have h646 : f640 q71 = some (.inl (y 0, 160, .inl (fun _ => (0 : Int32)))) := by rw [ef640]; exact (fw_up_n n626).trans h606
  have h647 : f640 q94 = some (.inl (y 0, 160, .inl (fun _ => (0 : Int32)))) := by rw [ef640]; exact (fw_up_n n627).trans h607
  have h648 : f640 q120 = some (.inl (y 0, 8, .inl (fun _ => (0 : Int32)))) := by rw [ef640]; exact (fw_up_n n628).trans h608
  have h649 : f640 q149 = some (.inl (y 0, 8, .inl (fun _ => (0 : Int32)))) := by rw [ef640]; exact (fw_up_n n629).trans h609
  have h650 : f640 q181 = some (.inl (y 0, 992, .inl (fun _ => (0 : Int32)))) := by rw [ef640]; exact (fw_up_n n630).trans h610
  have h651 : f640 q216 = some (.inl (y 0, 20, .inl (fun _ => (0 : Int32)))) := by rw [ef640]; exact (fw_up_n n631).trans h611
  have h652 : f640 q254 = some (.inl (y 0, 20, .inl (fun _ => (0 : Int32)))) := by rw [ef640]; exact (fw_up_n n632).trans h612
  have h653 : f640 q295 = some (.inl (y 0, 20, .inl (fun _ => (0 : Int32)))) := by rw [ef640]; exact (fw_up_n n633).trans h613
  have h654 : f640 q339 = some (.inl (y 0, 20, .inl (fun _ => (0 : Int32)))) := by rw [ef640]; exact (fw_up_n n634).trans h614
  have h655 : f640 q402 = some (.inl (y 0, 3, .inl (fun _ => (0 : Int32)))) := by rw [ef640]; exact (fw_up_n n635).trans h615
  have h656 : f640 q452 = some (.inl (y 0, 3, .inl (fun _ => (0 : Int32)))) := by rw [ef640]; exact (fw_up_n n636).trans h616
  have h657 : f640 q505 = some (.inl (y 0, 40, .inl (fun _ => (0 : Int32)))) := by rw [ef640]; exact (fw_up_n n637).trans h617
  have h658 : f640 q561 = some (.inl (y 0, 40, .inl (fun _ => (0 : Int32)))) := by rw [ef640]; exact (fw_up_n n638).trans h618
  have h659 : f640 h0 = some (.inr (9, [.int 0, .int 0, .int 0, .ref q1, .ref q9, .ref q20, .ref q34, .ref q51, .ref q71, .ref q94, .ref q120, .ref q149, .ref q181, .int 0, .ref q216, .ref q254, .ref q295, .ref q339, .int 20000, .ref q402, .ref q452, .int 0, .ref q505, .ref q561, .null])) := by rw [ef640]; exact (fw_up_n n639).trans h619
  have h660 : f640 q620 = some (.inl (y 1, 40, .inl (fun _ => (0 : Int32)))) := by rw [ef640]; exact fw_up_s
  refine fw_putF hx hb hts hown hE.1.1 hw (ci := 9) (fs := [.int 0, .int 0, .int 0, .ref q1, .ref q9, .ref q20, .ref q34, .ref q51, .ref q71, .ref q94, .ref q120, .ref q149, .ref q181, .int 0, .ref q216, .ref q254, .ref q295, .ref q339, .int 20000, .ref q402, .ref q452, .int 0, .ref q505, .ref q561, .null]) (v := .ref q620) h659 iX9_init_9 tyX9 tyX9_ok nmX9 rfl 24 (by decide) rfl (hin rfl) rfl rfl rfl (Nat.le_of_ble_eq_true rfl) (by decide +kernel) dX9_init_163 (fun H locs hw => ?_)
  obtain ⟨f661, ef661⟩ : ∃ z, z = fw_up f640 h0 (.inr (9, [.int 0, .int 0, .int 0, .ref q1, .ref q9, .ref q20, .ref q34, .ref q51, .ref q71, .ref q94, .ref q120, .ref q149, .ref q181, .int 0, .ref q216, .ref q254, .ref q295, .ref q339, .int 20000, .ref q402, .ref q452, .int 0, .ref q505, .ref q561, .ref q620])) := ⟨_, rfl⟩
  have hw : fw_S D A s.heap f661 H locs := by rw [ef661]; exact hw
  have h662 : f661 q1 = some (.inl (y 0, 8, .inl (fun _ => (0 : Int32)))) := by rw [ef661]; exact (fw_up_n (Ne.symm n2)).trans h641
  have h663 : f661 q9 = some (.inl (y 0, 248, .inl (fun _ => (0 : Int32)))) := by rw [ef661]; exact (fw_up_n (Ne.symm n11)).trans h642
  have h664 : f661 q20 = some (.inl (y 0, 93, .inl (fun _ => (0 : Int32)))) := by rw [ef661]; exact (fw_up_n (Ne.symm n23)).trans h643
  have h665 : f661 q34 = some (.inl (y 0, 93, .inl (fun _ => (0 : Int32)))) := by rw [ef661]; exact (fw_up_n (Ne.symm n38)).trans h644
  have h666 : f661 q51 = some (.inl (y 0, 160, .inl (fun _ => (0 : Int32)))) := by rw [ef661]; exact (fw_up_n (Ne.symm n56)).trans h645
  have h667 : f661 q71 = some (.inl (y 0, 160, .inl (fun _ => (0 : Int32)))) := by rw [ef661]; exact (fw_up_n (Ne.symm n77)).trans h646
  have h668 : f661 q94 = some (.inl (y 0, 160, .inl (fun _ => (0 : Int32)))) := by rw [ef661]; exact (fw_up_n (Ne.symm n101)).trans h647
  have h669 : f661 q120 = some (.inl (y 0, 8, .inl (fun _ => (0 : Int32)))) := by rw [ef661]; exact (fw_up_n (Ne.symm n128)).trans h648
  have h670 : f661 q149 = some (.inl (y 0, 8, .inl (fun _ => (0 : Int32)))) := by rw [ef661]; exact (fw_up_n (Ne.symm n158)).trans h649
  have h671 : f661 q181 = some (.inl (y 0, 992, .inl (fun _ => (0 : Int32)))) := by rw [ef661]; exact (fw_up_n (Ne.symm n191)).trans h650
  have h672 : f661 q216 = some (.inl (y 0, 20, .inl (fun _ => (0 : Int32)))) := by rw [ef661]; exact (fw_up_n (Ne.symm n227)).trans h651
  have h673 : f661 q254 = some (.inl (y 0, 20, .inl (fun _ => (0 : Int32)))) := by rw [ef661]; exact (fw_up_n (Ne.symm n266)).trans h652
  have h674 : f661 q295 = some (.inl (y 0, 20, .inl (fun _ => (0 : Int32)))) := by rw [ef661]; exact (fw_up_n (Ne.symm n308)).trans h653
  have h675 : f661 q339 = some (.inl (y 0, 20, .inl (fun _ => (0 : Int32)))) := by rw [ef661]; exact (fw_up_n (Ne.symm n353)).trans h654
  have h676 : f661 q402 = some (.inl (y 0, 3, .inl (fun _ => (0 : Int32)))) := by rw [ef661]; exact (fw_up_n (Ne.symm n417)).trans h655
  have h677 : f661 q452 = some (.inl (y 0, 3, .inl (fun _ => (0 : Int32)))) := by rw [ef661]; exact (fw_up_n (Ne.symm n468)).trans h656
  have h678 : f661 q505 = some (.inl (y 0, 40, .inl (fun _ => (0 : Int32)))) := by rw [ef661]; exact (fw_up_n (Ne.symm n522)).trans h657
  have h679 : f661 q561 = some (.inl (y 0, 40, .inl (fun _ => (0 : Int32)))) := by rw [ef661]; exact (fw_up_n (Ne.symm n579)).trans h658
  have h680 : f661 q620 = some (.inl (y 1, 40, .inl (fun _ => (0 : Int32)))) := by rw [ef661]; exact (fw_up_n (Ne.symm n639)).trans h660
  have h681 : f661 h0 = some (.inr (9, [.int 0, .int 0, .int 0, .ref q1, .ref q9, .ref q20, .ref q34, .ref q51, .ref q71, .ref q94, .ref q120, .ref q149, .ref q181, .int 0, .ref q216, .ref q254, .ref q295, .ref q339, .int 20000, .ref q402, .ref q452, .int 0, .ref q505, .ref q561, .ref q620])) := by rw [ef661]; exact fw_up_s
  refine lv_iconst (v := 0) hx hb dX9_init_166 (by decide) ?_
  refine lv_istore_n (lv' := [(1, .int 0), (0, .ref h0)]) hx hb dX9_init_167 rfl hl (by decide) rfl (fun ls hl => ?_)
  have hnd : [h0, q1, q9, q20, q34, q51, q71, q94, q120, q149, q181, q216, q254, q295, q339, q402, q452, q505, q561, q620].Nodup := by simp [Ne.symm n10, Ne.symm n100, Ne.symm n101, Ne.symm n11, Ne.symm n121, Ne.symm n122, Ne.symm n123, Ne.symm n124, Ne.symm n125, Ne.symm n126, Ne.symm n127, Ne.symm n128, Ne.symm n150, Ne.symm n151, Ne.symm n152, Ne.symm n153, Ne.symm n154, Ne.symm n155, Ne.symm n156, Ne.symm n157, Ne.symm n158, Ne.symm n182, Ne.symm n183, Ne.symm n184, Ne.symm n185, Ne.symm n186, Ne.symm n187, Ne.symm n188, Ne.symm n189, Ne.symm n190, Ne.symm n191, Ne.symm n2, Ne.symm n21, Ne.symm n217, Ne.symm n218, Ne.symm n219, Ne.symm n22, Ne.symm n220, Ne.symm n221, Ne.symm n222, Ne.symm n223, Ne.symm n224, Ne.symm n225, Ne.symm n226, Ne.symm n227, Ne.symm n23, Ne.symm n255, Ne.symm n256, Ne.symm n257, Ne.symm n258, Ne.symm n259, Ne.symm n260, Ne.symm n261, Ne.symm n262, Ne.symm n263, Ne.symm n264, Ne.symm n265, Ne.symm n266, Ne.symm n296, Ne.symm n297, Ne.symm n298, Ne.symm n299, Ne.symm n300, Ne.symm n301, Ne.symm n302, Ne.symm n303, Ne.symm n304, Ne.symm n305, Ne.symm n306, Ne.symm n307, Ne.symm n308, Ne.symm n340, Ne.symm n341, Ne.symm n342, Ne.symm n343, Ne.symm n344, Ne.symm n345, Ne.symm n346, Ne.symm n347, Ne.symm n348, Ne.symm n349, Ne.symm n35, Ne.symm n350, Ne.symm n351, Ne.symm n352, Ne.symm n353, Ne.symm n36, Ne.symm n37, Ne.symm n38, Ne.symm n403, Ne.symm n404, Ne.symm n405, Ne.symm n406, Ne.symm n407, Ne.symm n408, Ne.symm n409, Ne.symm n410, Ne.symm n411, Ne.symm n412, Ne.symm n413, Ne.symm n414, Ne.symm n415, Ne.symm n416, Ne.symm n417, Ne.symm n453, Ne.symm n454, Ne.symm n455, Ne.symm n456, Ne.symm n457, Ne.symm n458, Ne.symm n459, Ne.symm n460, Ne.symm n461, Ne.symm n462, Ne.symm n463, Ne.symm n464, Ne.symm n465, Ne.symm n466, Ne.symm n467, Ne.symm n468, Ne.symm n506, Ne.symm n507, Ne.symm n508, Ne.symm n509, Ne.symm n510, Ne.symm n511, Ne.symm n512, Ne.symm n513, Ne.symm n514, Ne.symm n515, Ne.symm n516, Ne.symm n517, Ne.symm n518, Ne.symm n519, Ne.symm n52, Ne.symm n520, Ne.symm n521, Ne.symm n522, Ne.symm n53, Ne.symm n54, Ne.symm n55, Ne.symm n56, Ne.symm n562, Ne.symm n563, Ne.symm n564, Ne.symm n565, Ne.symm n566, Ne.symm n567, Ne.symm n568, Ne.symm n569, Ne.symm n570, Ne.symm n571, Ne.symm n572, Ne.symm n573, Ne.symm n574, Ne.symm n575, Ne.symm n576, Ne.symm n577, Ne.symm n578, Ne.symm n579, Ne.symm n621, Ne.symm n622, Ne.symm n623, Ne.symm n624, Ne.symm n625, Ne.symm n626, Ne.symm n627, Ne.symm n628, Ne.symm n629, Ne.symm n630, Ne.symm n631, Ne.symm n632, Ne.symm n633, Ne.symm n634, Ne.symm n635, Ne.symm n636, Ne.symm n637, Ne.symm n638, Ne.symm n639, Ne.symm n72, Ne.symm n73, Ne.symm n74, Ne.symm n75, Ne.symm n76, Ne.symm n77, Ne.symm n95, Ne.symm n96, Ne.symm n97, Ne.symm n98, Ne.symm n99, n10, n100, n101, n11, n121, n122, n123, n124, n125, n126, n127, n128, n150, n151, n152, n153, n154, n155, n156, n157, n158, n182, n183, n184, n185, n186, n187, n188, n189, n190, n191, n2, n21, n217, n218, n219, n22, n220, n221, n222, n223, n224, n225, n226, n227, n23, n255, n256, n257, n258, n259, n260, n261, n262, n263, n264, n265, n266, n296, n297, n298, n299, n300, n301, n302, n303, n304, n305, n306, n307, n308, n340, n341, n342, n343, n344, n345, n346, n347, n348, n349, n35, n350, n351, n352, n353, n36, n37, n38, n403, n404, n405, n406, n407, n408, n409, n410, n411, n412, n413, n414, n415, n416, n417, n453, n454, n455, n456, n457, n458, n459, n460, n461, n462, n463, n464, n465, n466, n467, n468, n506, n507, n508, n509, n510, n511, n512, n513, n514, n515, n516, n517, n518, n519, n52, n520, n521, n522, n53, n54, n55, n56, n562, n563, n564, n565, n566, n567, n568, n569, n570, n571, n572, n573, n574, n575, n576, n577, n578, n579, n621, n622, n623, n624, n625, n626, n627, n628, n629, n630, n631, n632, n633, n634, n635, n636, n637, n638, n639, n72, n73, n74, n75, n76, n77, n95, n96, n97, n98, n99]
  have hRb : Rm y mu0 (fun k => [h0, q1, q9, q20, q34, q51, q71, q94, q120, q149, q181, q216, q254, q295, q339, q402, q452, q505, q561, q620].getD (mPos k) 0) f661 := by
    refine ⟨h681, ?_, mB_inj rfl hnd⟩
    simp only [mK, List.forall_mem_cons]
    exact ⟨h662, h663, h664, h665, h666, h667, h668, h669, h670, h671, h672, h673, h674, h675, h676, h677, h678, h679, h680, fun _ h => nomatch h⟩
  obtain ⟨β, hβ0, hR⟩ : ∃ β : Nat → Nat, β 0 = h0 ∧ Rm y mu0 β f661 := ⟨_, rfl, hRb⟩
  rw [← hβ0] at hl
  rw [← muA_0] at hR
  refine fw_loop 168 2 (fun r : Nat × fw_F => 248 - r.1) (fun r => r.1 ≤ 248 ∧ Rm y (muA r.1) β r.2) (fun r => r.2) (fun r => [(1, .int (nI r.1)), (0, .ref (β 0))]) (fun r => []) (fun r => 0 + 1 + 1 + 1 + 1 + 1 + 1 + 1 + 1 + 1 + 1 + 1 + 1 + 1 + 1 + 1 + 1 + 1 + 1 + 1) (fun r => 0 + 8 + 248 + 93 + 93 + 160 + 160 + 160 + 8 + 8 + 992 + 20 + 20 + 20 + 20 + 3 + 3 + 40 + 40 + 40) (fun r H locs ls hP hw hl IH => ?_) (0, f661) H locs ls ⟨by omega, hR⟩ hw (lv_sub hl [0, 1] rfl)
  obtain ⟨i, fa⟩ := r
  obtain ⟨hP1, hR⟩ := hP
  skip
  try dsimp only at hw
  try dsimp only at hl
  try dsimp only at IH
  try dsimp only at ⊢
  dsimp only at hP1 hR
  refine lv_iload_n hx hb dX9_init_168 rfl (lv_at hl 0 rfl) ?_
  refine lv_sipush (v := 248) hx hb dX9_init_169 (by decide) ?_
  refine lv_icmp_ge (tgt := 199) hx hb dX9_init_172 (by decide) (fun c_682 => ?_) (fun c_682 => ?_)
  · have hi248 : i = 248 := nI_eqn (n := 248) c_682 hP1 (by decide)
    refine lv_iconst (v := 0) hx hb dX9_init_199 (by decide) ?_
    refine lv_istore_n (lv' := [(1, .int 0), (0, .ref (β 0))]) hx hb dX9_init_200 rfl hl (by decide) rfl (fun ls hl => ?_)
    rw [hi248] at hR
    rw [← muB_0] at hR
    refine fw_loop 201 2 (fun r : Nat × fw_F => 93 - r.1) (fun r => r.1 ≤ 93 ∧ Rm y (muB r.1) β r.2) (fun r => r.2) (fun r => [(1, .int (nI r.1)), (0, .ref (β 0))]) (fun r => []) (fun r => 0 + 1 + 1 + 1 + 1 + 1 + 1 + 1 + 1 + 1 + 1 + 1 + 1 + 1 + 1 + 1 + 1 + 1 + 1 + 1) (fun r => 0 + 8 + 248 + 93 + 93 + 160 + 160 + 160 + 8 + 8 + 992 + 20 + 20 + 20 + 20 + 3 + 3 + 40 + 40 + 40) (fun r H locs ls hP hw hl IH => ?_) (0, fa) H locs ls ⟨by omega, hR⟩ hw (lv_sub hl [0, 1] rfl)
    obtain ⟨j, fb⟩ := r
    obtain ⟨hQ1, hR⟩ := hP
    skip
    try dsimp only at hw
    try dsimp only at hl
    try dsimp only at IH
    try dsimp only at ⊢
    dsimp only at hQ1 hR
    refine lv_iload_n hx hb dX9_init_201 rfl (lv_at hl 0 rfl) ?_
    refine lv_bipush (v := 93) hx hb dX9_init_202 (by decide) ?_
    refine lv_icmp_ge (tgt := 253) hx hb dX9_init_204 (by decide) (fun c_683 => ?_) (fun c_683 => ?_)
    · have hj93 : j = 93 := nI_eqn (n := 93) c_683 hQ1 (by decide)
      refine lv_iconst (v := 0) hx hb dX9_init_253 (by decide) ?_
      refine lv_istore_n (lv' := [(1, .int 0), (0, .ref (β 0))]) hx hb dX9_init_254 rfl hl (by decide) rfl (fun ls hl => ?_)
      rw [hj93] at hR
      rw [← muC_0] at hR
      refine fw_loop 255 2 (fun r : Nat × fw_F => 160 - r.1) (fun r => r.1 ≤ 160 ∧ Rm y (muC r.1) β r.2) (fun r => r.2) (fun r => [(1, .int (nI r.1)), (0, .ref (β 0))]) (fun r => []) (fun r => 0 + 1 + 1 + 1 + 1 + 1 + 1 + 1 + 1 + 1 + 1 + 1 + 1 + 1 + 1 + 1 + 1 + 1 + 1 + 1) (fun r => 0 + 8 + 248 + 93 + 93 + 160 + 160 + 160 + 8 + 8 + 992 + 20 + 20 + 20 + 20 + 3 + 3 + 40 + 40 + 40) (fun r H locs ls hP hw hl IH => ?_) (0, fb) H locs ls ⟨by omega, hR⟩ hw (lv_sub hl [0, 1] rfl)
      obtain ⟨k, fd⟩ := r
      obtain ⟨hT1, hR⟩ := hP
      skip
      try dsimp only at hw
      try dsimp only at hl
      try dsimp only at IH
      try dsimp only at ⊢
      dsimp only at hT1 hR
      refine lv_iload_n hx hb dX9_init_255 rfl (lv_at hl 0 rfl) ?_
      refine lv_sipush (v := 160) hx hb dX9_init_256 (by decide) ?_
      refine lv_icmp_ge (tgt := 275) hx hb dX9_init_259 (by decide) (fun c_684 => ?_) (fun c_684 => ?_)
      · have hk160 : k = 160 := nI_eqn (n := 160) c_684 hT1 (by decide)
        exact fw_vret hx hb hr hlocks hw (Nat.le_of_ble_eq_true rfl) (Nat.le_of_ble_eq_true rfl) dX9_init_275 (⟨β, hβ0, by rw [hk160] at hR; exact hR⟩)
      · have hk160 : k < 160 := nI_hi (n := 160) c_684 (by omega)
        refine lv_aload_n hx hb dX9_init_262 rfl (lv_at hl 1 rfl) ?_
        refine fw_get hx hb hts hown hE.1.1 hw (ci := 9) (fs := [.int (mu0 0 0), .int (mu0 1 0), .int (mu0 2 0), .ref (β 3), .ref (β 4), .ref (β 5), .ref (β 6), .ref (β 7), .ref (β 8), .ref (β 9), .ref (β 10), .ref (β 11), .ref (β 12), .int (mu0 13 0), .ref (β 14), .ref (β 15), .ref (β 16), .ref (β 17), .int (mu0 18 0), .ref (β 19), .ref (β 20), .int (mu0 21 0), .ref (β 22), .ref (β 23), .ref (β 24)]) (v := .ref (β 7)) hR.o iX9_init_9 rfl 7 (by decide) rfl (by decide +kernel) dX9_init_263 ?_
        refine lv_iload_n hx hb dX9_init_266 rfl (lv_at hl 0 rfl) ?_
        refine lv_iconst (v := (-1)) hx hb dX9_init_267 (by decide) ?_
        refine fw_iast hx hb hE.1.1 hw (g := (fillv (-1) k)) hR.a7 0 rfl (vp_in_nI (by omega) (by decide)) dX9_init_268 (fun H locs hw => ?_)
        rw [nI_clamp (n := k) (by omega)] at hw
        obtain ⟨f685, ef685⟩ : ∃ z, z = fw_up fd (β 7) (.inl (y 0, 160, .inl (va_up (fillv (-1) k) k (-1)))) := ⟨_, rfl⟩
        have hw : fw_S D A s.heap f685 H locs := by rw [ef685]; exact hw
        have hR : Rm y (up2 (muC k) 7 k (-1)) β f685 := by rw [ef685]; exact hR.s7 k (-1)
        refine lv_iinc (v := (nI (k + 1))) (lv' := [(1, .int (nI (k + 1))), (0, .ref (β 0))]) hx hb dX9_init_269 hl (k := 0) rfl (nI_1 (k)) (by decide) rfl (fun ls hl => ?_)
        refine lv_goto (tgt := 255) hx hb dX9_init_272 (by decide) ?_
        exact IH (k + 1, f685) _ _ _ (by dsimp only; omega) ⟨by dsimp only; omega, by dsimp only; unfold muC at hR ⊢; rw [upA_up2, fillv_s] at hR; exact hR⟩ hw (lv_sub hl [0, 1] rfl)
    · have hj93 : j < 93 := nI_hi (n := 93) c_683 (by omega)
      refine lv_aload_n hx hb dX9_init_207 rfl (lv_at hl 1 rfl) ?_
      refine fw_get hx hb hts hown hE.1.1 hw (ci := 9) (fs := [.int (mu0 0 0), .int (mu0 1 0), .int (mu0 2 0), .ref (β 3), .ref (β 4), .ref (β 5), .ref (β 6), .ref (β 7), .ref (β 8), .ref (β 9), .ref (β 10), .ref (β 11), .ref (β 12), .int (mu0 13 0), .ref (β 14), .ref (β 15), .ref (β 16), .ref (β 17), .int (mu0 18 0), .ref (β 19), .ref (β 20), .int (mu0 21 0), .ref (β 22), .ref (β 23), .ref (β 24)]) (v := .ref (β 5)) hR.o iX9_init_9 rfl 5 (by decide) rfl (by decide +kernel) dX9_init_208 ?_
      refine lv_iload_n hx hb dX9_init_211 rfl (lv_at hl 0 rfl) ?_
      refine lv_iload_n hx hb dX9_init_212 rfl (lv_at hl 0 rfl) ?_
      refine lv_bipush (v := 31) hx hb dX9_init_213 (by decide) ?_
      refine lv_irem hx hb dX9_init_215 (by decide) ?_
      rw [show (((nI j) - (nI j) / 31 * 31) : Int32) = (nI (j % 31)) from pk_rem (d := 31) (by omega) (by decide) (by decide)]
      refine lv_if_ne (tgt := 225) hx hb dX9_init_216 (by decide) (fun c_686 => ?_) (fun c_686 => ?_)
      · refine lv_iconst (v := (-1)) hx hb dX9_init_225 (by decide) ?_
        refine fw_iast hx hb hE.1.1 hw (g := (inM 1000 j)) hR.a5 0 rfl (vp_in_nI (by omega) (by decide)) dX9_init_226 (fun H locs hw => ?_)
        rw [nI_clamp (n := j) (by omega)] at hw
        obtain ⟨f687, ef687⟩ : ∃ z, z = fw_up fb (β 5) (.inl (y 0, 93, .inl (va_up (inM 1000 j) j (-1)))) := ⟨_, rfl⟩
        have hw : fw_S D A s.heap f687 H locs := by rw [ef687]; exact hw
        have hR : Rm y (up2 (muB j) 5 j (-1)) β f687 := by rw [ef687]; exact hR.s5 j (-1)
        refine lv_aload_n hx hb dX9_init_227 rfl (lv_at hl 1 rfl) ?_
        refine fw_get hx hb hts hown hE.1.1 hw (ci := 9) (fs := [.int (mu0 0 0), .int (mu0 1 0), .int (mu0 2 0), .ref (β 3), .ref (β 4), .ref (β 5), .ref (β 6), .ref (β 7), .ref (β 8), .ref (β 9), .ref (β 10), .ref (β 11), .ref (β 12), .int (mu0 13 0), .ref (β 14), .ref (β 15), .ref (β 16), .ref (β 17), .int (mu0 18 0), .ref (β 19), .ref (β 20), .int (mu0 21 0), .ref (β 22), .ref (β 23), .ref (β 24)]) (v := .ref (β 6)) hR.o iX9_init_9 rfl 6 (by decide) rfl (by decide +kernel) dX9_init_228 ?_
        refine lv_iload_n hx hb dX9_init_231 rfl (lv_at hl 0 rfl) ?_
        refine lv_iload_n hx hb dX9_init_232 rfl (lv_at hl 0 rfl) ?_
        refine lv_bipush (v := 31) hx hb dX9_init_233 (by decide) ?_
        refine lv_irem hx hb dX9_init_235 (by decide) ?_
        rw [show (((nI j) - (nI j) / 31 * 31) : Int32) = (nI (j % 31)) from pk_rem (d := 31) (by omega) (by decide) (by decide)]
        refine lv_if_ne (tgt := 245) hx hb dX9_init_236 (by decide) (fun c_688 => ?_) (fun c_688 => ?_)
        · refine lv_iconst (v := (-1)) hx hb dX9_init_245 (by decide) ?_
          refine fw_iast hx hb hE.1.1 hw (g := (inM 1500 j)) hR.a6 0 rfl (vp_in_nI (by omega) (by decide)) dX9_init_246 (fun H locs hw => ?_)
          rw [nI_clamp (n := j) (by omega)] at hw
          obtain ⟨f689, ef689⟩ : ∃ z, z = fw_up f687 (β 6) (.inl (y 0, 93, .inl (va_up (inM 1500 j) j (-1)))) := ⟨_, rfl⟩
          have hw : fw_S D A s.heap f689 H locs := by rw [ef689]; exact hw
          have hR : Rm y (up2 (up2 (muB j) 5 j (-1)) 6 j (-1)) β f689 := by rw [ef689]; exact hR.s6 j (-1)
          refine lv_iinc (v := (nI (j + 1))) (lv' := [(1, .int (nI (j + 1))), (0, .ref (β 0))]) hx hb dX9_init_247 hl (k := 0) rfl (nI_1 (j)) (by decide) rfl (fun ls hl => ?_)
          refine lv_goto (tgt := 201) hx hb dX9_init_250 (by decide) ?_
          exact IH (j + 1, f689) _ _ _ (by dsimp only; omega) ⟨by dsimp only; omega, by dsimp only; unfold muB at hR ⊢; rw [up2_upA (by decide), upA_up2, upA_up2, inM_s ((if_neg (fun z => c_686 (by rw [z]; rfl))).symm), inM_s ((if_neg (fun z => c_688 (by rw [z]; rfl))).symm)] at hR; exact hR⟩ hw (lv_sub hl [0, 1] rfl)
        · refine lv_sipush (v := 1500) hx hb dX9_init_239 (by decide) ?_
          refine lv_goto (tgt := 246) hx hb dX9_init_242 (by decide) ?_
          refine fw_iast hx hb hE.1.1 hw (g := (inM 1500 j)) hR.a6 0 rfl (vp_in_nI (by omega) (by decide)) dX9_init_246 (fun H locs hw => ?_)
          rw [nI_clamp (n := j) (by omega)] at hw
          obtain ⟨f690, ef690⟩ : ∃ z, z = fw_up f687 (β 6) (.inl (y 0, 93, .inl (va_up (inM 1500 j) j 1500))) := ⟨_, rfl⟩
          have hw : fw_S D A s.heap f690 H locs := by rw [ef690]; exact hw
          have hR : Rm y (up2 (up2 (muB j) 5 j (-1)) 6 j 1500) β f690 := by rw [ef690]; exact hR.s6 j 1500
          refine lv_iinc (v := (nI (j + 1))) (lv' := [(1, .int (nI (j + 1))), (0, .ref (β 0))]) hx hb dX9_init_247 hl (k := 0) rfl (nI_1 (j)) (by decide) rfl (fun ls hl => ?_)
          refine lv_goto (tgt := 201) hx hb dX9_init_250 (by decide) ?_
          exact IH (j + 1, f690) _ _ _ (by dsimp only; omega) ⟨by dsimp only; omega, by dsimp only; unfold muB at hR ⊢; rw [up2_upA (by decide), upA_up2, upA_up2, inM_s ((if_neg (fun z => c_686 (by rw [z]; rfl))).symm), inM_s ((if_pos (nI_z (by omega) c_688)).symm)] at hR; exact hR⟩ hw (lv_sub hl [0, 1] rfl)
      · refine lv_sipush (v := 1000) hx hb dX9_init_219 (by decide) ?_
        refine lv_goto (tgt := 226) hx hb dX9_init_222 (by decide) ?_
        refine fw_iast hx hb hE.1.1 hw (g := (inM 1000 j)) hR.a5 0 rfl (vp_in_nI (by omega) (by decide)) dX9_init_226 (fun H locs hw => ?_)
        rw [nI_clamp (n := j) (by omega)] at hw
        obtain ⟨f691, ef691⟩ : ∃ z, z = fw_up fb (β 5) (.inl (y 0, 93, .inl (va_up (inM 1000 j) j 1000))) := ⟨_, rfl⟩
        have hw : fw_S D A s.heap f691 H locs := by rw [ef691]; exact hw
        have hR : Rm y (up2 (muB j) 5 j 1000) β f691 := by rw [ef691]; exact hR.s5 j 1000
        refine lv_aload_n hx hb dX9_init_227 rfl (lv_at hl 1 rfl) ?_
        refine fw_get hx hb hts hown hE.1.1 hw (ci := 9) (fs := [.int (mu0 0 0), .int (mu0 1 0), .int (mu0 2 0), .ref (β 3), .ref (β 4), .ref (β 5), .ref (β 6), .ref (β 7), .ref (β 8), .ref (β 9), .ref (β 10), .ref (β 11), .ref (β 12), .int (mu0 13 0), .ref (β 14), .ref (β 15), .ref (β 16), .ref (β 17), .int (mu0 18 0), .ref (β 19), .ref (β 20), .int (mu0 21 0), .ref (β 22), .ref (β 23), .ref (β 24)]) (v := .ref (β 6)) hR.o iX9_init_9 rfl 6 (by decide) rfl (by decide +kernel) dX9_init_228 ?_
        refine lv_iload_n hx hb dX9_init_231 rfl (lv_at hl 0 rfl) ?_
        refine lv_iload_n hx hb dX9_init_232 rfl (lv_at hl 0 rfl) ?_
        refine lv_bipush (v := 31) hx hb dX9_init_233 (by decide) ?_
        refine lv_irem hx hb dX9_init_235 (by decide) ?_
        rw [show (((nI j) - (nI j) / 31 * 31) : Int32) = (nI (j % 31)) from pk_rem (d := 31) (by omega) (by decide) (by decide)]
        refine lv_if_ne (tgt := 245) hx hb dX9_init_236 (by decide) (fun c_692 => ?_) (fun c_692 => ?_)
        · refine lv_iconst (v := (-1)) hx hb dX9_init_245 (by decide) ?_
          refine fw_iast hx hb hE.1.1 hw (g := (inM 1500 j)) hR.a6 0 rfl (vp_in_nI (by omega) (by decide)) dX9_init_246 (fun H locs hw => ?_)
          rw [nI_clamp (n := j) (by omega)] at hw
          obtain ⟨f693, ef693⟩ : ∃ z, z = fw_up f691 (β 6) (.inl (y 0, 93, .inl (va_up (inM 1500 j) j (-1)))) := ⟨_, rfl⟩
          have hw : fw_S D A s.heap f693 H locs := by rw [ef693]; exact hw
          have hR : Rm y (up2 (up2 (muB j) 5 j 1000) 6 j (-1)) β f693 := by rw [ef693]; exact hR.s6 j (-1)
          refine lv_iinc (v := (nI (j + 1))) (lv' := [(1, .int (nI (j + 1))), (0, .ref (β 0))]) hx hb dX9_init_247 hl (k := 0) rfl (nI_1 (j)) (by decide) rfl (fun ls hl => ?_)
          refine lv_goto (tgt := 201) hx hb dX9_init_250 (by decide) ?_
          exact IH (j + 1, f693) _ _ _ (by dsimp only; omega) ⟨by dsimp only; omega, by dsimp only; unfold muB at hR ⊢; rw [up2_upA (by decide), upA_up2, upA_up2, inM_s ((if_pos (nI_z (by omega) c_686)).symm), inM_s ((if_neg (fun z => c_692 (by rw [z]; rfl))).symm)] at hR; exact hR⟩ hw (lv_sub hl [0, 1] rfl)
        · refine lv_sipush (v := 1500) hx hb dX9_init_239 (by decide) ?_
          refine lv_goto (tgt := 246) hx hb dX9_init_242 (by decide) ?_
          refine fw_iast hx hb hE.1.1 hw (g := (inM 1500 j)) hR.a6 0 rfl (vp_in_nI (by omega) (by decide)) dX9_init_246 (fun H locs hw => ?_)
          rw [nI_clamp (n := j) (by omega)] at hw
          obtain ⟨f694, ef694⟩ : ∃ z, z = fw_up f691 (β 6) (.inl (y 0, 93, .inl (va_up (inM 1500 j) j 1500))) := ⟨_, rfl⟩
          have hw : fw_S D A s.heap f694 H locs := by rw [ef694]; exact hw
          have hR : Rm y (up2 (up2 (muB j) 5 j 1000) 6 j 1500) β f694 := by rw [ef694]; exact hR.s6 j 1500
          refine lv_iinc (v := (nI (j + 1))) (lv' := [(1, .int (nI (j + 1))), (0, .ref (β 0))]) hx hb dX9_init_247 hl (k := 0) rfl (nI_1 (j)) (by decide) rfl (fun ls hl => ?_)
          refine lv_goto (tgt := 201) hx hb dX9_init_250 (by decide) ?_
          exact IH (j + 1, f694) _ _ _ (by dsimp only; omega) ⟨by dsimp only; omega, by dsimp only; unfold muB at hR ⊢; rw [up2_upA (by decide), upA_up2, upA_up2, inM_s ((if_pos (nI_z (by omega) c_686)).symm), inM_s ((if_pos (nI_z (by omega) c_692)).symm)] at hR; exact hR⟩ hw (lv_sub hl [0, 1] rfl)
  · have hi248 : i < 248 := nI_hi (n := 248) c_682 (by omega)
    refine lv_aload_n hx hb dX9_init_175 rfl (lv_at hl 1 rfl) ?_
    refine fw_get hx hb hts hown hE.1.1 hw (ci := 9) (fs := [.int (mu0 0 0), .int (mu0 1 0), .int (mu0 2 0), .ref (β 3), .ref (β 4), .ref (β 5), .ref (β 6), .ref (β 7), .ref (β 8), .ref (β 9), .ref (β 10), .ref (β 11), .ref (β 12), .int (mu0 13 0), .ref (β 14), .ref (β 15), .ref (β 16), .ref (β 17), .int (mu0 18 0), .ref (β 19), .ref (β 20), .int (mu0 21 0), .ref (β 22), .ref (β 23), .ref (β 24)]) (v := .ref (β 4)) hR.o iX9_init_9 rfl 4 (by decide) rfl (by decide +kernel) dX9_init_176 ?_
    refine lv_iload_n hx hb dX9_init_179 rfl (lv_at hl 0 rfl) ?_
    refine lv_iload_n hx hb dX9_init_180 rfl (lv_at hl 0 rfl) ?_
    refine lv_bipush (v := 31) hx hb dX9_init_181 (by decide) ?_
    refine lv_irem hx hb dX9_init_183 (by decide) ?_
    rw [show (((nI i) - (nI i) / 31 * 31) : Int32) = (nI (i % 31)) from pk_rem (d := 31) (by omega) (by decide) (by decide)]
    refine lv_if_ne (tgt := 191) hx hb dX9_init_184 (by decide) (fun c_695 => ?_) (fun c_695 => ?_)
    · refine lv_iconst (v := (-1)) hx hb dX9_init_191 (by decide) ?_
      refine fw_iast hx hb hE.1.1 hw (g := (inM 0 i)) hR.a4 0 rfl (vp_in_nI (by omega) (by decide)) dX9_init_192 (fun H locs hw => ?_)
      rw [nI_clamp (n := i) (by omega)] at hw
      obtain ⟨f696, ef696⟩ : ∃ z, z = fw_up fa (β 4) (.inl (y 0, 248, .inl (va_up (inM 0 i) i (-1)))) := ⟨_, rfl⟩
      have hw : fw_S D A s.heap f696 H locs := by rw [ef696]; exact hw
      have hR : Rm y (up2 (muA i) 4 i (-1)) β f696 := by rw [ef696]; exact hR.s4 i (-1)
      refine lv_iinc (v := (nI (i + 1))) (lv' := [(1, .int (nI (i + 1))), (0, .ref (β 0))]) hx hb dX9_init_193 hl (k := 0) rfl (nI_1 (i)) (by decide) rfl (fun ls hl => ?_)
      refine lv_goto (tgt := 168) hx hb dX9_init_196 (by decide) ?_
      exact IH (i + 1, f696) _ _ _ (by dsimp only; omega) ⟨by dsimp only; omega, by dsimp only; unfold muA at hR ⊢; rw [upA_up2, inM_s ((if_neg (fun z => c_695 (by rw [z]; rfl))).symm)] at hR; exact hR⟩ hw (lv_sub hl [0, 1] rfl)
    · refine lv_iconst (v := 0) hx hb dX9_init_187 (by decide) ?_
      refine lv_goto (tgt := 192) hx hb dX9_init_188 (by decide) ?_
      refine fw_iast hx hb hE.1.1 hw (g := (inM 0 i)) hR.a4 0 rfl (vp_in_nI (by omega) (by decide)) dX9_init_192 (fun H locs hw => ?_)
      rw [nI_clamp (n := i) (by omega)] at hw
      obtain ⟨f697, ef697⟩ : ∃ z, z = fw_up fa (β 4) (.inl (y 0, 248, .inl (va_up (inM 0 i) i 0))) := ⟨_, rfl⟩
      have hw : fw_S D A s.heap f697 H locs := by rw [ef697]; exact hw
      have hR : Rm y (up2 (muA i) 4 i 0) β f697 := by rw [ef697]; exact hR.s4 i 0
      refine lv_iinc (v := (nI (i + 1))) (lv' := [(1, .int (nI (i + 1))), (0, .ref (β 0))]) hx hb dX9_init_193 hl (k := 0) rfl (nI_1 (i)) (by decide) rfl (fun ls hl => ?_)
      refine lv_goto (tgt := 168) hx hb dX9_init_196 (by decide) ?_
      exact IH (i + 1, f697) _ _ _ (by dsimp only; omega) ⟨by dsimp only; omega, by dsimp only; unfold muA at hR ⊢; rw [upA_up2, inM_s ((if_pos (nI_z (by omega) c_695)).symm)] at hR; exact hR⟩ hw (lv_sub hl [0, 1] rfl)
