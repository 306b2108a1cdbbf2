theorem iX7_take_7 : ∀ w ∈ wsX70, w ∈ wsX7_take := by decide +kernel
set_option maxHeartbeats 4000000 in
set_option maxRecDepth 100000 in
/-- Worker.take -/
theorem c_X7_take (l : Launch) (D : va_G) (A : Nat → Prop) (y : Nat → ClassId) (sa : Nat → Nat) (f : fw_F) (h0 pv rv shv slv : Nat) (cv tv ev : Int32) (j k q : Nat) (g0 g1 g2 : Int32) (S : Nat → Option Nat) (hj20 : j < 20) (hk20 : k ≤ 20) (hf : f h0 = some (.inr (7, [.ref pv, .ref rv, .int (nI k), .int cv, .int tv, .int ev, .ref shv, .ref slv]))) (hsh : f shv = some (.inl (y 5, 20, .inr (.inr (.inr (.inr S)))))) (hq : f q = some (.inr (4, [.int g0, .int g1, .int g2]))) : Met l yX7_take wsX7_take ({ frames := 1, cells := 0, slots := 0, locals := 21 } : Room) (cPc D A y sa f [.ref h0, .int (nI j), .ref q]) (cQv D A (fun f1 => f1 = fw_up (fw_up f shv (.inl (y 5, 20, .inr (.inr (.inr (.inr (va_up S j (some q)))))))) h0 (.inr (7, [.ref pv, .ref rv, .int (nI (cntU (va_up S j (some q)) (20 - k) k)), .int cv, .int tv, .int ev, .ref shv, .ref slv])))) 0 0 A := by
  refine fw_met (by decide) rfl [.ref h0, .int (nI j), .ref q] (Nat.le_of_ble_eq_true rfl) ?_
  intro p e s m args below meth c ls I hin hE hw hl
  obtain ⟨hx, hb, hr, hts, hown, hlocks, hml⟩ := I
  have hown : s.vm.findClass RX7 = some m.cls := hown
  have hl : lv_has ls 3 [(0, .ref h0), (1, .int (nI j)), (2, .ref q)] := hl
  refine lv_iload_n hx hb dX7_take_0 rfl (lv_at hl 1 rfl) ?_
  refine lv_if_lt (tgt := 20) hx hb dX7_take_1 (by decide) (fun c_1 => ?_) (fun c_1 => ?_)
  · exact absurd c_1 (nI_pos (by omega))
  · refine lv_iload_n hx hb dX7_take_4 rfl (lv_at hl 1 rfl) ?_
    refine lv_aload_n hx hb dX7_take_5 rfl (lv_at hl 0 rfl) ?_
    refine fw_get hx hb hts hown hE.1.1 hw (ci := 7) (fs := [.ref pv, .ref rv, .int (nI k), .int cv, .int tv, .int ev, .ref shv, .ref slv]) (v := .ref shv) hf iX7_take_7 rfl 6 (by decide) rfl (by decide +kernel) dX7_take_6 ?_
    refine fw_alen hx hb hE.1.1 hw hsh 5 rfl (v := 20) rfl dX7_take_9 ?_
    refine lv_icmp_ge (tgt := 20) hx hb dX7_take_10 (by decide) (fun c_2 => ?_) (fun c_2 => ?_)
    · exact absurd c_2 (nI_ge (b := 20) hj20 (by decide))
    · refine lv_aload_n hx hb dX7_take_13 rfl (lv_at hl 0 rfl) ?_
      refine fw_get hx hb hts hown hE.1.1 hw (ci := 7) (fs := [.ref pv, .ref rv, .int (nI k), .int cv, .int tv, .int ev, .ref shv, .ref slv]) (v := .ref shv) hf iX7_take_7 rfl 6 (by decide) rfl (by decide +kernel) dX7_take_14 ?_
      refine lv_iload_n hx hb dX7_take_17 rfl (lv_at hl 1 rfl) ?_
      refine lv_aload_n hx hb dX7_take_18 rfl (lv_at hl 2 rfl) ?_
      refine fw_aast (r := (RX4, TX4, 3)) hx hb hE.1.1 hw (g := S) hsh 5 rfl hq rfl (vp_in_nI (by omega) (by decide)) dX7_take_19 (fun H locs hw => ?_)
      rw [nI_clamp (n := j) (by omega)] at hw
      obtain ⟨f3, ef3⟩ : ∃ z, z = fw_up f shv (.inl (y 5, 20, .inr (.inr (.inr (.inr (va_up S j (some q))))))) := ⟨_, rfl⟩
      have hw : fw_S D A s.heap f3 H locs := by rw [ef3]; exact hw
      have h4 : f3 h0 = some (.inr (7, [.ref pv, .ref rv, .int (nI k), .int cv, .int tv, .int ev, .ref shv, .ref slv])) := by rw [ef3]; exact (fw_up_n (fw_ne2 hf hsh (by simp))).trans hf
      have h5 : f3 q = some (.inr (4, [.int g0, .int g1, .int g2])) := by rw [ef3]; exact (fw_up_n (fw_ne2 hq hsh (by simp))).trans hq
      have h6 : f3 shv = some (.inl (y 5, 20, .inr (.inr (.inr (.inr (va_up S j (some q))))))) := by rw [ef3]; exact fw_up_s
      rw [ef3] at hw
      rw [← fw_up_id (f := fw_up f shv (.inl (y 5, 20, .inr (.inr (.inr (.inr (va_up S j (some q)))))))) (a := h0) ((fw_up_n (fw_ne2 hf hsh (by simp))).trans hf)] at hw
      refine fw_loop 20 3 (fun r : Nat => 20 - r) (fun r => r ≤ 20 ∧ cntU (va_up S j (some q)) (20 - r) r = cntU (va_up S j (some q)) (20 - k) k) (fun r => fw_up (fw_up f shv (.inl (y 5, 20, .inr (.inr (.inr (.inr (va_up S j (some q)))))))) h0 (.inr (7, [.ref pv, .ref rv, .int (nI r), .int cv, .int tv, .int ev, .ref shv, .ref slv]))) (fun r => [(0, .ref h0), (1, .int (nI j)), (2, .ref q)]) (fun r => []) (fun r => 0) (fun r => 0) (fun i H locs ls hP hw hl IH => ?_) k H locs ls ⟨hk20, rfl⟩ hw (lv_sub hl [0, 1, 2] rfl)
      obtain ⟨hP1, hP2⟩ := hP
      skip
      try dsimp only at hw
      try dsimp only at hl
      try dsimp only at IH
      try dsimp only at ⊢
      obtain ⟨fa, efa⟩ : ∃ z, z = fw_up (fw_up f shv (.inl (y 5, 20, .inr (.inr (.inr (.inr (va_up S j (some q)))))))) h0 (.inr (7, [.ref pv, .ref rv, .int (nI i), .int cv, .int tv, .int ev, .ref shv, .ref slv])) := ⟨_, rfl⟩
      rw [← efa] at hw
      have hfa : fa h0 = some (.inr (7, [.ref pv, .ref rv, .int (nI i), .int cv, .int tv, .int ev, .ref shv, .ref slv])) := by rw [efa]; exact fw_up_s
      have hsa : fa shv = some (.inl (y 5, 20, .inr (.inr (.inr (.inr (va_up S j (some q))))))) := by rw [efa, fw_up_n (Ne.symm (fw_ne2 hf hsh (by simp)))]; exact fw_up_s
      refine lv_aload_n hx hb dX7_take_20 rfl (lv_at hl 0 rfl) ?_
      refine fw_get hx hb hts hown hE.1.1 hw (ci := 7) (fs := [.ref pv, .ref rv, .int (nI i), .int cv, .int tv, .int ev, .ref shv, .ref slv]) (v := .int (nI i)) hfa iX7_take_7 rfl 2 (by decide) rfl (by decide +kernel) dX7_take_21 ?_
      refine lv_aload_n hx hb dX7_take_24 rfl (lv_at hl 0 rfl) ?_
      refine fw_get hx hb hts hown hE.1.1 hw (ci := 7) (fs := [.ref pv, .ref rv, .int (nI i), .int cv, .int tv, .int ev, .ref shv, .ref slv]) (v := .ref shv) hfa iX7_take_7 rfl 6 (by decide) rfl (by decide +kernel) dX7_take_25 ?_
      refine fw_alen hx hb hE.1.1 hw hsa 5 rfl (v := 20) rfl dX7_take_28 ?_
      refine lv_icmp_ge (tgt := 56) hx hb dX7_take_29 (by decide) (fun c_7 => ?_) (fun c_7 => ?_)
      · exact fw_vret hx hb hr hlocks hw (Nat.le_of_ble_eq_true rfl) (Nat.le_of_ble_eq_true rfl) dX7_take_56 (by obtain rfl := nI_eqn (n := 20) c_7 hP1 (by decide); rw [efa, ← hP2]; rfl)
      · have hi20 : i < 20 := nI_hi (n := 20) c_7 (by omega)
        refine lv_aload_n hx hb dX7_take_32 rfl (lv_at hl 0 rfl) ?_
        refine lv_aload_n hx hb dX7_take_33 rfl (lv_at hl 0 rfl) ?_
        refine fw_get hx hb hts hown hE.1.1 hw (ci := 7) (fs := [.ref pv, .ref rv, .int (nI i), .int cv, .int tv, .int ev, .ref shv, .ref slv]) (v := .int (nI i)) hfa iX7_take_7 rfl 2 (by decide) rfl (by decide +kernel) dX7_take_34 ?_
        refine fw_callVq hx hb hml hown hts hE hw [.int (nI i)] [] (c_X7_sheet l D A y sa fa h0 pv rv shv slv (nI i) cv tv ev (nI i) (va_up S j (some q)) hfa hsa) (cwV 1 hts gX7_take_X7_sheet rfl rfl rfl (by decide +kernel) ⟨Nat.le_of_ble_eq_true rfl, Nat.le_of_ble_eq_true rfl⟩) (ci := 7) rfl rfl hfa rfl hl.1 rfl (Nat.le_of_ble_eq_true rfl) dX7_take_37 ⟨Nat.le_of_ble_eq_true rfl, Nat.le_of_ble_eq_true rfl⟩ (fun r8 f9 H locs hp10 hw => ?_)
        obtain ⟨hp10a, hp10b⟩ := hp10
        rw [hp10b] at hw
        rw [if_pos ⟨nI_pos' (by omega), nI_lt (b := 20) hi20 (by decide)⟩, nI_clamp (n := i) (by omega)] at hp10a
        rw [hp10a]
        cases hSi : (va_up S j (some q)) i with
        | none =>
          refine lv_ifnullN (tgt := 56) hx hb dX7_take_40 (by decide) ?_
          exact fw_vret hx hb hr hlocks hw (Nat.le_of_ble_eq_true rfl) (Nat.le_of_ble_eq_true rfl) dX7_take_56 (by rw [efa, ← hP2, show 20 - i = (20 - (i + 1)) + 1 by omega, cntU, hSi]; rfl)
        | some qq =>
          refine lv_ifnull hx hb dX7_take_40 ?_
          refine lv_aload_n hx hb dX7_take_43 rfl (lv_at hl 0 rfl) ?_
          refine lv_dup hx hb dX7_take_44 rfl ?_
          refine fw_get hx hb hts hown hE.1.1 hw (ci := 7) (fs := [.ref pv, .ref rv, .int (nI i), .int cv, .int tv, .int ev, .ref shv, .ref slv]) (v := .int (nI i)) hfa iX7_take_7 rfl 2 (by decide) rfl (by decide +kernel) dX7_take_45 ?_
          refine lv_iconst (v := 1) hx hb dX7_take_48 (by decide) ?_
          refine lv_iadd hx hb dX7_take_49 ?_
          refine fw_put hx hb hts hown hE.1.1 hw (ci := 7) (fs := [.ref pv, .ref rv, .int (nI i), .int cv, .int tv, .int ev, .ref shv, .ref slv]) (v := .int ((nI i) + 1)) hfa iX7_take_7 tyX7 tyX7_ok nmX7 rfl 2 (by decide) rfl rfl rfl (Nat.le_of_ble_eq_true rfl) (by decide +kernel) dX7_take_50 (fun H locs hw => ?_)
          obtain ⟨f11, ef11⟩ : ∃ z, z = fw_up fa h0 (.inr (7, [.ref pv, .ref rv, .int ((nI i) + 1), .int cv, .int tv, .int ev, .ref shv, .ref slv])) := ⟨_, rfl⟩
          have hw : fw_S D A s.heap f11 H locs := by rw [ef11]; exact hw
          have h12 : f11 shv = some (.inl (y 5, 20, .inr (.inr (.inr (.inr (va_up S j (some q))))))) := by rw [ef11]; exact (fw_up_n (Ne.symm (fw_ne2 hf hsh (by simp)))).trans hsa
          have h13 : f11 h0 = some (.inr (7, [.ref pv, .ref rv, .int ((nI i) + 1), .int cv, .int tv, .int ev, .ref shv, .ref slv])) := by rw [ef11]; exact fw_up_s
          refine lv_goto (tgt := 20) hx hb dX7_take_53 (by decide) ?_
          exact IH (i + 1) _ _ _ (by omega) ⟨by omega, by rw [← hP2, show 20 - i = (20 - (i + 1)) + 1 by omega]; exact (if_pos (by rw [hSi]; rfl)).symm⟩ (by rw [ef11, efa, fw_up_up] at hw; rw [← nI_1]; exact hw) (lv_sub hl [0, 1, 2] rfl)

theorem iX2_init_2 : ∀ w ∈ wsX20, w ∈ wsX2_init := by decide +kernel
theorem iX2_init_3 : ∀ w ∈ wsX30, w ∈ wsX2_init := by decide +kernel
set_option maxHeartbeats 4000000 in
set_option maxRecDepth 100000 in
/-- Rates() -/
theorem c_X2_init (l : Launch) (D : va_G) (A : Nat → Prop) (y : Nat → ClassId) (sa : Nat → Nat) (f : fw_F) (h0 : Nat) (hf : f h0 = some (.inr (2, [.null, .null]))) : Met l yX2_init wsX2_init ({ frames := 2, cells := 6, slots := 128, locals := 44 } : Room) (cPc D A y sa f [.ref h0]) (cQv D A (fun f1 => ∃ q v t q2 v2 t2 : Nat, f q = none ∧ f v = none ∧ f t = none ∧ f q2 = none ∧ f v2 = none ∧ f t2 = none ∧ [q, v, t, q2, v2, t2].Nodup ∧ f1 h0 = some (.inr (2, [.ref q, .ref q2])) ∧ f1 q = some (.inr (3, [.ref v, .ref t])) ∧ f1 v = some (.inl (y 0, 31, .inl (fillv 1000 31))) ∧ f1 t = some (.inl (y 1, 31, .inl (fun _ => 0))) ∧ f1 q2 = some (.inr (3, [.ref v2, .ref t2])) ∧ f1 v2 = some (.inl (y 0, 31, .inl (fillv 1500 31))) ∧ f1 t2 = some (.inl (y 1, 31, .inl (fun _ => 0))) ∧ ∀ b, b ≠ h0 → b ≠ q → b ≠ v → b ≠ t → b ≠ q2 → b ≠ v2 → b ≠ t2 → f1 b = f b)) 6 128 A := by
  refine fw_met (by decide) rfl [.ref h0] (Nat.le_of_ble_eq_true rfl) ?_
  intro p e s m args below meth c ls I hin hE hw hl
  obtain ⟨hx, hb, hr, hts, hown, hlocks, hml⟩ := I
  have hown : s.vm.findClass RX2 = some m.cls := hown
  have hl : lv_has ls 1 [(0, .ref h0)] := hl
  refine lv_aload_n hx hb dX2_init_0 rfl (lv_at hl 0 rfl) ?_
  refine W.objInit hx hb hown (hts (.methodLink RX2 3 objectInit) (by decide +kernel)) (hts (.instanceMethod objectInit) (by decide +kernel)) (hts (.code objectInit ⟨#[0xb1]⟩ 1 none) (by decide +kernel)) rfl (by rw [hml]; exact hl.1) rfl dX2_init_1 (Nat.le_of_ble_eq_true rfl) (Nat.le_of_ble_eq_true rfl) ?_
  refine W.eq (g2 := F0 m 4 ls []) rfl ?_
  refine lv_aload_n hx hb dX2_init_4 rfl (lv_at hl 0 rfl) ?_
  refine fw_new hx hb hts hown hE.1.1 hw hE.2.1 (ci := 3) (C := RX3) (T := TX3) (N := 2) (fs := [.null, .null]) iX2_init_3 tyX3 tyX3_ok (by decide +kernel) (by decide +kernel) (by decide +kernel) rfl (fun j hj => by rcases (show j = 0 ∨ j = 1 by omega) with rfl | rfl <;> rfl) (Nat.le_of_ble_eq_true rfl) (Nat.le_of_ble_eq_true rfl) dX2_init_5 (fun q1 H hnq1 hw => ?_)
  have hbq1 : f q1 = none := hnq1
  have n2 : h0 ≠ q1 := fun z => absurd (hf.symm.trans ((congrArg f z).trans hnq1)) (by simp)
  obtain ⟨f3, ef3⟩ : ∃ z, z = fw_up f q1 (.inr (3, [.null, .null])) := ⟨_, rfl⟩
  have hw : fw_S D A s.heap f3 H [] := by rw [ef3]; exact hw
  have h4 : f3 h0 = some (.inr (2, [.null, .null])) := by rw [ef3]; exact (fw_up_n n2).trans hf
  have h5 : f3 q1 = some (.inr (3, [.null, .null])) := by rw [ef3]; exact fw_up_s
  refine lv_dup hx hb dX2_init_8 rfl ?_
  refine lv_sipush (v := 1000) hx hb dX2_init_9 (by decide) ?_
  refine fw_callIv hx hb hml hown hts hE hw [.int 1000] [.ref q1, .ref h0] (c_X3_init l D A y sa f3 q1 1000 h5) (cwI 1 hts gX2_init_X3_init rfl rfl rfl (hts (.initialized RX3) (by decide +kernel)) (hts (.methodLink RX2 11 yX3_init) (by decide +kernel)) (hts (.instanceMethod yX3_init) (by decide +kernel)) rfl (by decide +kernel) ⟨Nat.le_of_ble_eq_true rfl, Nat.le_of_ble_eq_true rfl⟩) rfl hl.1 rfl (Nat.le_of_ble_eq_true rfl) dX2_init_12 ⟨Nat.le_of_ble_eq_true rfl, Nat.le_of_ble_eq_true rfl⟩ (fun f7 H locs hp8 hw => ?_)
  obtain ⟨v9, t10, hnv9, hnt10, hdv9, ef7⟩ := hp8
  have hbv9 : f v9 = none := by have z9 := hnv9; rw [ef3] at z9; exact (fw_up_o z9)
  have n11 : h0 ≠ v9 := fw_ne h4 hnv9
  have n12 : q1 ≠ v9 := fw_ne h5 hnv9
  have hbt10 : f t10 = none := by have z9 := hnt10; rw [ef3] at z9; exact (fw_up_o z9)
  have n13 : h0 ≠ t10 := fw_ne h4 hnt10
  have n14 : q1 ≠ t10 := fw_ne h5 hnt10
  have h15 : f7 h0 = some (.inr (2, [.null, .null])) := by rw [ef7, fw_up_n n2, fw_up_n n13, fw_up_n n11]; exact h4
  have h16 : f7 v9 = some (.inl (y 0, 31, .inl (fillv 1000 31))) := by rw [ef7, fw_up_n (Ne.symm n12), fw_up_n hdv9]; exact fw_up_s
  have h17 : f7 t10 = some (.inl (y 1, 31, .inl (fun _ => (0 : Int32)))) := by rw [ef7, fw_up_n (Ne.symm n14)]; exact fw_up_s
  have h18 : f7 q1 = some (.inr (3, [.ref v9, .ref t10])) := by rw [ef7]; exact fw_up_s
  refine fw_putF hx hb hts hown hE.1.1 hw (ci := 2) (fs := [.null, .null]) (v := .ref q1) h15 iX2_init_2 tyX2 tyX2_ok nmX2 rfl 0 (by decide) rfl (hin rfl) rfl rfl rfl (Nat.le_of_ble_eq_true rfl) (by decide +kernel) dX2_init_15 (fun H locs hw => ?_)
  obtain ⟨f19, ef19⟩ : ∃ z, z = fw_up f7 h0 (.inr (2, [.ref q1, .null])) := ⟨_, rfl⟩
  have hw : fw_S D A s.heap f19 H locs := by rw [ef19]; exact hw
  have h20 : f19 v9 = some (.inl (y 0, 31, .inl (fillv 1000 31))) := by rw [ef19]; exact (fw_up_n (Ne.symm n11)).trans h16
  have h21 : f19 t10 = some (.inl (y 1, 31, .inl (fun _ => (0 : Int32)))) := by rw [ef19]; exact (fw_up_n (Ne.symm n13)).trans h17
  have h22 : f19 q1 = some (.inr (3, [.ref v9, .ref t10])) := by rw [ef19]; exact (fw_up_n (Ne.symm n2)).trans h18
  have h23 : f19 h0 = some (.inr (2, [.ref q1, .null])) := by rw [ef19]; exact fw_up_s
  refine lv_aload_n hx hb dX2_init_18 rfl (lv_at hl 0 rfl) ?_
  refine fw_new hx hb hts hown hE.1.1 hw hE.2.1 (ci := 3) (C := RX3) (T := TX3) (N := 2) (fs := [.null, .null]) iX2_init_3 tyX3 tyX3_ok (by decide +kernel) (by decide +kernel) (by decide +kernel) rfl (fun j hj => by rcases (show j = 0 ∨ j = 1 by omega) with rfl | rfl <;> rfl) (Nat.le_of_ble_eq_true rfl) (Nat.le_of_ble_eq_true rfl) dX2_init_19 (fun q24 H hnq24 hw => ?_)
  have hbq24 : f q24 = none := by have z9 := hnq24; rw [ef19, ef7, ef3] at z9; exact (fw_up_o (fw_up_o (fw_up_o (fw_up_o (fw_up_o z9)))))
  have n25 : v9 ≠ q24 := fun z => absurd (h20.symm.trans ((congrArg f19 z).trans hnq24)) (by simp)
  have n26 : t10 ≠ q24 := fun z => absurd (h21.symm.trans ((congrArg f19 z).trans hnq24)) (by simp)
  have n27 : q1 ≠ q24 := fun z => absurd (h22.symm.trans ((congrArg f19 z).trans hnq24)) (by simp)
  have n28 : h0 ≠ q24 := fun z => absurd (h23.symm.trans ((congrArg f19 z).trans hnq24)) (by simp)
  obtain ⟨f29, ef29⟩ : ∃ z, z = fw_up f19 q24 (.inr (3, [.null, .null])) := ⟨_, rfl⟩
  have hw : fw_S D A s.heap f29 H locs := by rw [ef29]; exact hw
  have h30 : f29 v9 = some (.inl (y 0, 31, .inl (fillv 1000 31))) := by rw [ef29]; exact (fw_up_n n25).trans h20
  have h31 : f29 t10 = some (.inl (y 1, 31, .inl (fun _ => (0 : Int32)))) := by rw [ef29]; exact (fw_up_n n26).trans h21
  have h32 : f29 q1 = some (.inr (3, [.ref v9, .ref t10])) := by rw [ef29]; exact (fw_up_n n27).trans h22
  have h33 : f29 h0 = some (.inr (2, [.ref q1, .null])) := by rw [ef29]; exact (fw_up_n n28).trans h23
  have h34 : f29 q24 = some (.inr (3, [.null, .null])) := by rw [ef29]; exact fw_up_s
  refine lv_dup hx hb dX2_init_22 rfl ?_
  refine lv_sipush (v := 1500) hx hb dX2_init_23 (by decide) ?_
  refine fw_callIv hx hb hml hown hts hE hw [.int 1500] [.ref q24, .ref h0] (c_X3_init l D A y sa f29 q24 1500 h34) (cwI 1 hts gX2_init_X3_init rfl rfl rfl (hts (.initialized RX3) (by decide +kernel)) (hts (.methodLink RX2 11 yX3_init) (by decide +kernel)) (hts (.instanceMethod yX3_init) (by decide +kernel)) rfl (by decide +kernel) ⟨Nat.le_of_ble_eq_true rfl, Nat.le_of_ble_eq_true rfl⟩) rfl hl.1 rfl (Nat.le_of_ble_eq_true rfl) dX2_init_26 ⟨Nat.le_of_ble_eq_true rfl, Nat.le_of_ble_eq_true rfl⟩ (fun f36 H locs hp37 hw => ?_)
  obtain ⟨v38, t39, hnv38, hnt39, hdv38, ef36⟩ := hp37
  have hbv38 : f v38 = none := by have z9 := hnv38; rw [ef29, ef19, ef7, ef3] at z9; exact (fw_up_o (fw_up_o (fw_up_o (fw_up_o (fw_up_o (fw_up_o z9))))))
  have n40 : v9 ≠ v38 := fw_ne h30 hnv38
  have n41 : t10 ≠ v38 := fw_ne h31 hnv38
  have n42 : q1 ≠ v38 := fw_ne h32 hnv38
  have n43 : h0 ≠ v38 := fw_ne h33 hnv38
  have n44 : q24 ≠ v38 := fw_ne h34 hnv38
  have hbt39 : f t39 = none := by have z9 := hnt39; rw [ef29, ef19, ef7, ef3] at z9; exact (fw_up_o (fw_up_o (fw_up_o (fw_up_o (fw_up_o (fw_up_o z9))))))
  have n45 : v9 ≠ t39 := fw_ne h30 hnt39
  have n46 : t10 ≠ t39 := fw_ne h31 hnt39
  have n47 : q1 ≠ t39 := fw_ne h32 hnt39
  have n48 : h0 ≠ t39 := fw_ne h33 hnt39
  have n49 : q24 ≠ t39 := fw_ne h34 hnt39
  have h50 : f36 v9 = some (.inl (y 0, 31, .inl (fillv 1000 31))) := by rw [ef36, fw_up_n n25, fw_up_n n45, fw_up_n n40]; exact h30
  have h51 : f36 t10 = some (.inl (y 1, 31, .inl (fun _ => (0 : Int32)))) := by rw [ef36, fw_up_n n26, fw_up_n n46, fw_up_n n41]; exact h31
  have h52 : f36 q1 = some (.inr (3, [.ref v9, .ref t10])) := by rw [ef36, fw_up_n n27, fw_up_n n47, fw_up_n n42]; exact h32
  have h53 : f36 h0 = some (.inr (2, [.ref q1, .null])) := by rw [ef36, fw_up_n n28, fw_up_n n48, fw_up_n n43]; exact h33
  have h54 : f36 v38 = some (.inl (y 0, 31, .inl (fillv 1500 31))) := by rw [ef36, fw_up_n (Ne.symm n44), fw_up_n hdv38]; exact fw_up_s
  have h55 : f36 t39 = some (.inl (y 1, 31, .inl (fun _ => (0 : Int32)))) := by rw [ef36, fw_up_n (Ne.symm n49)]; exact fw_up_s
  have h56 : f36 q24 = some (.inr (3, [.ref v38, .ref t39])) := by rw [ef36]; exact fw_up_s
  refine fw_putF hx hb hts hown hE.1.1 hw (ci := 2) (fs := [.ref q1, .null]) (v := .ref q24) h53 iX2_init_2 tyX2 tyX2_ok nmX2 rfl 1 (by decide) rfl (hin rfl) rfl rfl rfl (Nat.le_of_ble_eq_true rfl) (by decide +kernel) dX2_init_29 (fun H locs hw => ?_)
  obtain ⟨f57, ef57⟩ : ∃ z, z = fw_up f36 h0 (.inr (2, [.ref q1, .ref q24])) := ⟨_, rfl⟩
  have hw : fw_S D A s.heap f57 H locs := by rw [ef57]; exact hw
  have h58 : f57 v9 = some (.inl (y 0, 31, .inl (fillv 1000 31))) := by rw [ef57]; exact (fw_up_n (Ne.symm n11)).trans h50
  have h59 : f57 t10 = some (.inl (y 1, 31, .inl (fun _ => (0 : Int32)))) := by rw [ef57]; exact (fw_up_n (Ne.symm n13)).trans h51
  have h60 : f57 q1 = some (.inr (3, [.ref v9, .ref t10])) := by rw [ef57]; exact (fw_up_n (Ne.symm n2)).trans h52
  have h61 : f57 v38 = some (.inl (y 0, 31, .inl (fillv 1500 31))) := by rw [ef57]; exact (fw_up_n (Ne.symm n43)).trans h54
  have h62 : f57 t39 = some (.inl (y 1, 31, .inl (fun _ => (0 : Int32)))) := by rw [ef57]; exact (fw_up_n (Ne.symm n48)).trans h55
  have h63 : f57 q24 = some (.inr (3, [.ref v38, .ref t39])) := by rw [ef57]; exact (fw_up_n (Ne.symm n28)).trans h56
  have h64 : f57 h0 = some (.inr (2, [.ref q1, .ref q24])) := by rw [ef57]; exact fw_up_s
  exact fw_vret hx hb hr hlocks hw (Nat.le_of_ble_eq_true rfl) (Nat.le_of_ble_eq_true rfl) dX2_init_32 (⟨q1, v9, t10, q24, v38, t39, hbq1, hbv9, hbt10, hbq24, hbv38, hbt39, by simp [Ne.symm hdv38, Ne.symm hdv9, Ne.symm n12, Ne.symm n14, Ne.symm n25, Ne.symm n26, Ne.symm n27, Ne.symm n40, Ne.symm n41, Ne.symm n42, Ne.symm n44, Ne.symm n45, Ne.symm n46, Ne.symm n47, Ne.symm n49, hdv38, hdv9, n12, n14, n25, n26, n27, n40, n41, n42, n44, n45, n46, n47, n49], h64, h60, h58, h59, h63, h61, h62, fun b z0 z1 z2 z3 z4 z5 z6 => by rw [ef57, fw_up_n z0, ef36, fw_up_n z4, fw_up_n z6, fw_up_n z5, ef29, fw_up_n z4, ef19, fw_up_n z0, ef7, fw_up_n z1, fw_up_n z3, fw_up_n z2, ef3, fw_up_n z1]⟩)

theorem iX7_init_3 : ∀ w ∈ wsX30, w ∈ wsX7_init := by decide +kernel
theorem iX7_init_7 : ∀ w ∈ wsX70, w ∈ wsX7_init := by decide +kernel
set_option maxHeartbeats 4000000 in
set_option maxRecDepth 100000 in
/-- Worker(pot) -/
theorem c_X7_init (l : Launch) (D : va_G) (A : Nat → Prop) (y : Nat → ClassId) (sa : Nat → Nat) (f : fw_F) (h0 pv : Nat) (hf : f h0 = some (.inr (7, [.null, .null, .int 0, .int 0, .int 0, .int 0, .null, .null]))) : Met l yX7_init wsX7_init ({ frames := 2, cells := 5, slots := 117, locals := 44 } : Room) (cPc D A y sa f [.ref h0, .ref pv]) (cQv D A (fun f1 => ∃ q v t sh sl : Nat, f q = none ∧ f v = none ∧ f t = none ∧ f sh = none ∧ f sl = none ∧ [q, v, t, sh, sl].Nodup ∧ f1 h0 = some (.inr (7, [.ref pv, .ref q, .int 0, .int 0, .int 0, .int 0, .ref sh, .ref sl])) ∧ f1 q = some (.inr (3, [.ref v, .ref t])) ∧ f1 v = some (.inl (y 0, 31, .inl (fillv 0 31))) ∧ f1 t = some (.inl (y 1, 31, .inl (fun _ => 0))) ∧ f1 sh = some (.inl (y 5, 20, .inr (.inr (.inr (.inr (fun _ => none)))))) ∧ f1 sl = some (.inl (y 6, 31, .inr (.inr (.inr (.inr (fun _ => none)))))) ∧ ∀ b, b ≠ h0 → b ≠ q → b ≠ v → b ≠ t → b ≠ sh → b ≠ sl → f1 b = f b)) 5 117 A := by
  refine fw_met (by decide) rfl [.ref h0, .ref pv] (Nat.le_of_ble_eq_true rfl) ?_
  intro p e s m args below meth c ls I hin hE hw hl
  obtain ⟨hx, hb, hr, hts, hown, hlocks, hml⟩ := I
  have hown : s.vm.findClass RX7 = some m.cls := hown
  have hl : lv_has ls 2 [(0, .ref h0), (1, .ref pv)] := hl
  refine lv_aload_n hx hb dX7_init_0 rfl (lv_at hl 0 rfl) ?_
  refine W.objInit hx hb hown (hts (.methodLink RX7 3 objectInit) (by decide +kernel)) (hts (.instanceMethod objectInit) (by decide +kernel)) (hts (.code objectInit ⟨#[0xb1]⟩ 1 none) (by decide +kernel)) rfl (by rw [hml]; exact hl.1) rfl dX7_init_1 (Nat.le_of_ble_eq_true rfl) (Nat.le_of_ble_eq_true rfl) ?_
  refine W.eq (g2 := F0 m 4 ls []) rfl ?_
  refine lv_aload_n hx hb dX7_init_4 rfl (lv_at hl 0 rfl) ?_
  refine fw_new hx hb hts hown hE.1.1 hw hE.2.1 (ci := 3) (C := RX3) (T := TX3) (N := 2) (fs := [.null, .null]) iX7_init_3 tyX3 tyX3_ok (by decide +kernel) (by decide +kernel) (by decide +kernel) rfl (fun j hj => by rcases (show j = 0 ∨ j = 1 by omega) with rfl | rfl <;> rfl) (Nat.le_of_ble_eq_true rfl) (Nat.le_of_ble_eq_true rfl) dX7_init_5 (fun q1 H hnq1 hw => ?_)
  have hbq1 : f q1 = none := hnq1
  have n2 : h0 ≠ q1 := fun z => absurd (hf.symm.trans ((congrArg f z).trans hnq1)) (by simp)
  obtain ⟨f3, ef3⟩ : ∃ z, z = fw_up f q1 (.inr (3, [.null, .null])) := ⟨_, rfl⟩
  have hw : fw_S D A s.heap f3 H [] := by rw [ef3]; exact hw
  have h4 : f3 h0 = some (.inr (7, [.null, .null, .int 0, .int 0, .int 0, .int 0, .null, .null])) := by rw [ef3]; exact (fw_up_n n2).trans hf
  have h5 : f3 q1 = some (.inr (3, [.null, .null])) := by rw [ef3]; exact fw_up_s
  refine lv_dup hx hb dX7_init_8 rfl ?_
  refine lv_iconst (v := 0) hx hb dX7_init_9 (by decide) ?_
  refine fw_callIv hx hb hml hown hts hE hw [.int 0] [.ref q1, .ref h0] (c_X3_init l D A y sa f3 q1 0 h5) (cwI 1 hts gX7_init_X3_init rfl rfl rfl (hts (.initialized RX3) (by decide +kernel)) (hts (.methodLink RX7 11 yX3_init) (by decide +kernel)) (hts (.instanceMethod yX3_init) (by decide +kernel)) rfl (by decide +kernel) ⟨Nat.le_of_ble_eq_true rfl, Nat.le_of_ble_eq_true rfl⟩) rfl hl.1 rfl (Nat.le_of_ble_eq_true rfl) dX7_init_10 ⟨Nat.le_of_ble_eq_true rfl, Nat.le_of_ble_eq_true rfl⟩ (fun f7 H locs hp8 hw => ?_)
  obtain ⟨v9, t10, hnv9, hnt10, hdv9, ef7⟩ := hp8
  have hbv9 : f v9 = none := by have z9 := hnv9; rw [ef3] at z9; exact (fw_up_o z9)
  have n11 : h0 ≠ v9 := fw_ne h4 hnv9
  have n12 : q1 ≠ v9 := fw_ne h5 hnv9
  have hbt10 : f t10 = none := by have z9 := hnt10; rw [ef3] at z9; exact (fw_up_o z9)
  have n13 : h0 ≠ t10 := fw_ne h4 hnt10
  have n14 : q1 ≠ t10 := fw_ne h5 hnt10
  have h15 : f7 h0 = some (.inr (7, [.null, .null, .int 0, .int 0, .int 0, .int 0, .null, .null])) := by rw [ef7, fw_up_n n2, fw_up_n n13, fw_up_n n11]; exact h4
  have h16 : f7 v9 = some (.inl (y 0, 31, .inl (fillv 0 31))) := by rw [ef7, fw_up_n (Ne.symm n12), fw_up_n hdv9]; exact fw_up_s
  have h17 : f7 t10 = some (.inl (y 1, 31, .inl (fun _ => (0 : Int32)))) := by rw [ef7, fw_up_n (Ne.symm n14)]; exact fw_up_s
  have h18 : f7 q1 = some (.inr (3, [.ref v9, .ref t10])) := by rw [ef7]; exact fw_up_s
  refine fw_putF hx hb hts hown hE.1.1 hw (ci := 7) (fs := [.null, .null, .int 0, .int 0, .int 0, .int 0, .null, .null]) (v := .ref q1) h15 iX7_init_7 tyX7 tyX7_ok nmX7 rfl 1 (by decide) rfl (hin rfl) rfl rfl rfl (Nat.le_of_ble_eq_true rfl) (by decide +kernel) dX7_init_13 (fun H locs hw => ?_)
  obtain ⟨f19, ef19⟩ : ∃ z, z = fw_up f7 h0 (.inr (7, [.null, .ref q1, .int 0, .int 0, .int 0, .int 0, .null, .null])) := ⟨_, rfl⟩
  have hw : fw_S D A s.heap f19 H locs := by rw [ef19]; exact hw
  have h20 : f19 v9 = some (.inl (y 0, 31, .inl (fillv 0 31))) := by rw [ef19]; exact (fw_up_n (Ne.symm n11)).trans h16
  have h21 : f19 t10 = some (.inl (y 1, 31, .inl (fun _ => (0 : Int32)))) := by rw [ef19]; exact (fw_up_n (Ne.symm n13)).trans h17
  have h22 : f19 q1 = some (.inr (3, [.ref v9, .ref t10])) := by rw [ef19]; exact (fw_up_n (Ne.symm n2)).trans h18
  have h23 : f19 h0 = some (.inr (7, [.null, .ref q1, .int 0, .int 0, .int 0, .int 0, .null, .null])) := by rw [ef19]; exact fw_up_s
  refine lv_aload_n hx hb dX7_init_16 rfl (lv_at hl 0 rfl) ?_
  refine lv_iconst (v := 0) hx hb dX7_init_17 (by decide) ?_
  refine fw_put hx hb hts hown hE.1.1 hw (ci := 7) (fs := [.null, .ref q1, .int 0, .int 0, .int 0, .int 0, .null, .null]) (v := .int 0) h23 iX7_init_7 tyX7 tyX7_ok nmX7 rfl 2 (by decide) rfl rfl rfl (Nat.le_of_ble_eq_true rfl) (by decide +kernel) dX7_init_18 (fun H locs hw => ?_)
  obtain ⟨f24, ef24⟩ : ∃ z, z = fw_up f19 h0 (.inr (7, [.null, .ref q1, .int 0, .int 0, .int 0, .int 0, .null, .null])) := ⟨_, rfl⟩
  have hw : fw_S D A s.heap f24 H locs := by rw [ef24]; exact hw
  have h25 : f24 v9 = some (.inl (y 0, 31, .inl (fillv 0 31))) := by rw [ef24]; exact (fw_up_n (Ne.symm n11)).trans h20
  have h26 : f24 t10 = some (.inl (y 1, 31, .inl (fun _ => (0 : Int32)))) := by rw [ef24]; exact (fw_up_n (Ne.symm n13)).trans h21
  have h27 : f24 q1 = some (.inr (3, [.ref v9, .ref t10])) := by rw [ef24]; exact (fw_up_n (Ne.symm n2)).trans h22
  have h28 : f24 h0 = some (.inr (7, [.null, .ref q1, .int 0, .int 0, .int 0, .int 0, .null, .null])) := by rw [ef24]; exact fw_up_s
  refine lv_aload_n hx hb dX7_init_21 rfl (lv_at hl 0 rfl) ?_
  refine lv_iconst (v := 0) hx hb dX7_init_22 (by decide) ?_
  refine fw_put hx hb hts hown hE.1.1 hw (ci := 7) (fs := [.null, .ref q1, .int 0, .int 0, .int 0, .int 0, .null, .null]) (v := .int 0) h28 iX7_init_7 tyX7 tyX7_ok nmX7 rfl 3 (by decide) rfl rfl rfl (Nat.le_of_ble_eq_true rfl) (by decide +kernel) dX7_init_23 (fun H locs hw => ?_)
  obtain ⟨f29, ef29⟩ : ∃ z, z = fw_up f24 h0 (.inr (7, [.null, .ref q1, .int 0, .int 0, .int 0, .int 0, .null, .null])) := ⟨_, rfl⟩
  have hw : fw_S D A s.heap f29 H locs := by rw [ef29]; exact hw
  have h30 : f29 v9 = some (.inl (y 0, 31, .inl (fillv 0 31))) := by rw [ef29]; exact (fw_up_n (Ne.symm n11)).trans h25
  have h31 : f29 t10 = some (.inl (y 1, 31, .inl (fun _ => (0 : Int32)))) := by rw [ef29]; exact (fw_up_n (Ne.symm n13)).trans h26
  have h32 : f29 q1 = some (.inr (3, [.ref v9, .ref t10])) := by rw [ef29]; exact (fw_up_n (Ne.symm n2)).trans h27
  have h33 : f29 h0 = some (.inr (7, [.null, .ref q1, .int 0, .int 0, .int 0, .int 0, .null, .null])) := by rw [ef29]; exact fw_up_s
  refine lv_aload_n hx hb dX7_init_26 rfl (lv_at hl 0 rfl) ?_
  refine lv_iconst (v := 0) hx hb dX7_init_27 (by decide) ?_
  refine fw_put hx hb hts hown hE.1.1 hw (ci := 7) (fs := [.null, .ref q1, .int 0, .int 0, .int 0, .int 0, .null, .null]) (v := .int 0) h33 iX7_init_7 tyX7 tyX7_ok nmX7 rfl 4 (by decide) rfl rfl rfl (Nat.le_of_ble_eq_true rfl) (by decide +kernel) dX7_init_28 (fun H locs hw => ?_)
  obtain ⟨f34, ef34⟩ : ∃ z, z = fw_up f29 h0 (.inr (7, [.null, .ref q1, .int 0, .int 0, .int 0, .int 0, .null, .null])) := ⟨_, rfl⟩
  have hw : fw_S D A s.heap f34 H locs := by rw [ef34]; exact hw
  have h35 : f34 v9 = some (.inl (y 0, 31, .inl (fillv 0 31))) := by rw [ef34]; exact (fw_up_n (Ne.symm n11)).trans h30
  have h36 : f34 t10 = some (.inl (y 1, 31, .inl (fun _ => (0 : Int32)))) := by rw [ef34]; exact (fw_up_n (Ne.symm n13)).trans h31
  have h37 : f34 q1 = some (.inr (3, [.ref v9, .ref t10])) := by rw [ef34]; exact (fw_up_n (Ne.symm n2)).trans h32
  have h38 : f34 h0 = some (.inr (7, [.null, .ref q1, .int 0, .int 0, .int 0, .int 0, .null, .null])) := by rw [ef34]; exact fw_up_s
  refine lv_aload_n hx hb dX7_init_31 rfl (lv_at hl 0 rfl) ?_
  refine lv_iconst (v := 0) hx hb dX7_init_32 (by decide) ?_
  refine fw_put hx hb hts hown hE.1.1 hw (ci := 7) (fs := [.null, .ref q1, .int 0, .int 0, .int 0, .int 0, .null, .null]) (v := .int 0) h38 iX7_init_7 tyX7 tyX7_ok nmX7 rfl 5 (by decide) rfl rfl rfl (Nat.le_of_ble_eq_true rfl) (by decide +kernel) dX7_init_33 (fun H locs hw => ?_)
  obtain ⟨f39, ef39⟩ : ∃ z, z = fw_up f34 h0 (.inr (7, [.null, .ref q1, .int 0, .int 0, .int 0, .int 0, .null, .null])) := ⟨_, rfl⟩
  have hw : fw_S D A s.heap f39 H locs := by rw [ef39]; exact hw
  have h40 : f39 v9 = some (.inl (y 0, 31, .inl (fillv 0 31))) := by rw [ef39]; exact (fw_up_n (Ne.symm n11)).trans h35
  have h41 : f39 t10 = some (.inl (y 1, 31, .inl (fun _ => (0 : Int32)))) := by rw [ef39]; exact (fw_up_n (Ne.symm n13)).trans h36
  have h42 : f39 q1 = some (.inr (3, [.ref v9, .ref t10])) := by rw [ef39]; exact (fw_up_n (Ne.symm n2)).trans h37
  have h43 : f39 h0 = some (.inr (7, [.null, .ref q1, .int 0, .int 0, .int 0, .int 0, .null, .null])) := by rw [ef39]; exact fw_up_s
  refine lv_aload_n hx hb dX7_init_36 rfl (lv_at hl 0 rfl) ?_
  refine lv_bipush (v := 20) hx hb dX7_init_37 (by decide) ?_
  refine fw_newQ hx hb hts hown hE.1.1 hw hE.2.1 (C := RX4) (by decide +kernel) (hE.1.2.1 RX4 (by decide +kernel)) 5 rfl (N := 20) (by decide) rfl (by decide) (Nat.le_of_ble_eq_true rfl) (Nat.le_of_ble_eq_true rfl) dX7_init_39 (fun q44 H hnq44 hw => ?_)
  have hbq44 : f q44 = none := by have z9 := hnq44; rw [ef39, ef34, ef29, ef24, ef19, ef7, ef3] at z9; exact (fw_up_o (fw_up_o (fw_up_o (fw_up_o (fw_up_o (fw_up_o (fw_up_o (fw_up_o (fw_up_o z9)))))))))
  have n45 : v9 ≠ q44 := fun z => absurd (h40.symm.trans ((congrArg f39 z).trans hnq44)) (by simp)
  have n46 : t10 ≠ q44 := fun z => absurd (h41.symm.trans ((congrArg f39 z).trans hnq44)) (by simp)
  have n47 : q1 ≠ q44 := fun z => absurd (h42.symm.trans ((congrArg f39 z).trans hnq44)) (by simp)
  have n48 : h0 ≠ q44 := fun z => absurd (h43.symm.trans ((congrArg f39 z).trans hnq44)) (by simp)
  obtain ⟨f49, ef49⟩ : ∃ z, z = fw_up f39 q44 (.inl (y 5, 20, .inr (.inr (.inr (.inr (fun _ => none)))))) := ⟨_, rfl⟩
  have hw : fw_S D A s.heap f49 H locs := by rw [ef49]; exact hw
  have h50 : f49 v9 = some (.inl (y 0, 31, .inl (fillv 0 31))) := by rw [ef49]; exact (fw_up_n n45).trans h40
  have h51 : f49 t10 = some (.inl (y 1, 31, .inl (fun _ => (0 : Int32)))) := by rw [ef49]; exact (fw_up_n n46).trans h41
  have h52 : f49 q1 = some (.inr (3, [.ref v9, .ref t10])) := by rw [ef49]; exact (fw_up_n n47).trans h42
  have h53 : f49 h0 = some (.inr (7, [.null, .ref q1, .int 0, .int 0, .int 0, .int 0, .null, .null])) := by rw [ef49]; exact (fw_up_n n48).trans h43
  have h54 : f49 q44 = some (.inl (y 5, 20, .inr (.inr (.inr (.inr (fun _ => none)))))) := by rw [ef49]; exact fw_up_s
  refine fw_putF hx hb hts hown hE.1.1 hw (ci := 7) (fs := [.null, .ref q1, .int 0, .int 0, .int 0, .int 0, .null, .null]) (v := .ref q44) h53 iX7_init_7 tyX7 tyX7_ok nmX7 rfl 6 (by decide) rfl (hin rfl) rfl rfl rfl (Nat.le_of_ble_eq_true rfl) (by decide +kernel) dX7_init_42 (fun H locs hw => ?_)
  obtain ⟨f55, ef55⟩ : ∃ z, z = fw_up f49 h0 (.inr (7, [.null, .ref q1, .int 0, .int 0, .int 0, .int 0, .ref q44, .null])) := ⟨_, rfl⟩
  have hw : fw_S D A s.heap f55 H locs := by rw [ef55]; exact hw
  have h56 : f55 v9 = some (.inl (y 0, 31, .inl (fillv 0 31))) := by rw [ef55]; exact (fw_up_n (Ne.symm n11)).trans h50
  have h57 : f55 t10 = some (.inl (y 1, 31, .inl (fun _ => (0 : Int32)))) := by rw [ef55]; exact (fw_up_n (Ne.symm n13)).trans h51
  have h58 : f55 q1 = some (.inr (3, [.ref v9, .ref t10])) := by rw [ef55]; exact (fw_up_n (Ne.symm n2)).trans h52
  have h59 : f55 q44 = some (.inl (y 5, 20, .inr (.inr (.inr (.inr (fun _ => none)))))) := by rw [ef55]; exact (fw_up_n (Ne.symm n48)).trans h54
  have h60 : f55 h0 = some (.inr (7, [.null, .ref q1, .int 0, .int 0, .int 0, .int 0, .ref q44, .null])) := by rw [ef55]; exact fw_up_s
  refine lv_aload_n hx hb dX7_init_45 rfl (lv_at hl 0 rfl) ?_
  refine lv_bipush (v := 31) hx hb dX7_init_46 (by decide) ?_
  refine fw_newQ hx hb hts hown hE.1.1 hw hE.2.1 (C := RX5) (by decide +kernel) (hE.1.2.1 RX5 (by decide +kernel)) 6 rfl (N := 31) (by decide) rfl (by decide) (Nat.le_of_ble_eq_true rfl) (Nat.le_of_ble_eq_true rfl) dX7_init_48 (fun q61 H hnq61 hw => ?_)
  have hbq61 : f q61 = none := by have z9 := hnq61; rw [ef55, ef49, ef39, ef34, ef29, ef24, ef19, ef7, ef3] at z9; exact (fw_up_o (fw_up_o (fw_up_o (fw_up_o (fw_up_o (fw_up_o (fw_up_o (fw_up_o (fw_up_o (fw_up_o (fw_up_o z9)))))))))))
  have n62 : v9 ≠ q61 := fun z => absurd (h56.symm.trans ((congrArg f55 z).trans hnq61)) (by simp)
  have n63 : t10 ≠ q61 := fun z => absurd (h57.symm.trans ((congrArg f55 z).trans hnq61)) (by simp)
  have n64 : q1 ≠ q61 := fun z => absurd (h58.symm.trans ((congrArg f55 z).trans hnq61)) (by simp)
  have n65 : q44 ≠ q61 := fun z => absurd (h59.symm.trans ((congrArg f55 z).trans hnq61)) (by simp)
  have n66 : h0 ≠ q61 := fun z => absurd (h60.symm.trans ((congrArg f55 z).trans hnq61)) (by simp)
  obtain ⟨f67, ef67⟩ : ∃ z, z = fw_up f55 q61 (.inl (y 6, 31, .inr (.inr (.inr (.inr (fun _ => none)))))) := ⟨_, rfl⟩
  have hw : fw_S D A s.heap f67 H locs := by rw [ef67]; exact hw
  have h68 : f67 v9 = some (.inl (y 0, 31, .inl (fillv 0 31))) := by rw [ef67]; exact (fw_up_n n62).trans h56
  have h69 : f67 t10 = some (.inl (y 1, 31, .inl (fun _ => (0 : Int32)))) := by rw [ef67]; exact (fw_up_n n63).trans h57
  have h70 : f67 q1 = some (.inr (3, [.ref v9, .ref t10])) := by rw [ef67]; exact (fw_up_n n64).trans h58
  have h71 : f67 q44 = some (.inl (y 5, 20, .inr (.inr (.inr (.inr (fun _ => none)))))) := by rw [ef67]; exact (fw_up_n n65).trans h59
  have h72 : f67 h0 = some (.inr (7, [.null, .ref q1, .int 0, .int 0, .int 0, .int 0, .ref q44, .null])) := by rw [ef67]; exact (fw_up_n n66).trans h60
  have h73 : f67 q61 = some (.inl (y 6, 31, .inr (.inr (.inr (.inr (fun _ => none)))))) := by rw [ef67]; exact fw_up_s
  refine fw_putF hx hb hts hown hE.1.1 hw (ci := 7) (fs := [.null, .ref q1, .int 0, .int 0, .int 0, .int 0, .ref q44, .null]) (v := .ref q61) h72 iX7_init_7 tyX7 tyX7_ok nmX7 rfl 7 (by decide) rfl (hin rfl) rfl rfl rfl (Nat.le_of_ble_eq_true rfl) (by decide +kernel) dX7_init_51 (fun H locs hw => ?_)
  obtain ⟨f74, ef74⟩ : ∃ z, z = fw_up f67 h0 (.inr (7, [.null, .ref q1, .int 0, .int 0, .int 0, .int 0, .ref q44, .ref q61])) := ⟨_, rfl⟩
  have hw : fw_S D A s.heap f74 H locs := by rw [ef74]; exact hw
  have h75 : f74 v9 = some (.inl (y 0, 31, .inl (fillv 0 31))) := by rw [ef74]; exact (fw_up_n (Ne.symm n11)).trans h68
  have h76 : f74 t10 = some (.inl (y 1, 31, .inl (fun _ => (0 : Int32)))) := by rw [ef74]; exact (fw_up_n (Ne.symm n13)).trans h69
  have h77 : f74 q1 = some (.inr (3, [.ref v9, .ref t10])) := by rw [ef74]; exact (fw_up_n (Ne.symm n2)).trans h70
  have h78 : f74 q44 = some (.inl (y 5, 20, .inr (.inr (.inr (.inr (fun _ => none)))))) := by rw [ef74]; exact (fw_up_n (Ne.symm n48)).trans h71
  have h79 : f74 q61 = some (.inl (y 6, 31, .inr (.inr (.inr (.inr (fun _ => none)))))) := by rw [ef74]; exact (fw_up_n (Ne.symm n66)).trans h73
  have h80 : f74 h0 = some (.inr (7, [.null, .ref q1, .int 0, .int 0, .int 0, .int 0, .ref q44, .ref q61])) := by rw [ef74]; exact fw_up_s
  refine lv_aload_n hx hb dX7_init_54 rfl (lv_at hl 0 rfl) ?_
  refine lv_aload_n hx hb dX7_init_55 rfl (lv_at hl 1 rfl) ?_
  refine fw_putF hx hb hts hown hE.1.1 hw (ci := 7) (fs := [.null, .ref q1, .int 0, .int 0, .int 0, .int 0, .ref q44, .ref q61]) (v := .ref pv) h80 iX7_init_7 tyX7 tyX7_ok nmX7 rfl 0 (by decide) rfl (hin rfl) rfl rfl rfl (Nat.le_of_ble_eq_true rfl) (by decide +kernel) dX7_init_56 (fun H locs hw => ?_)
  obtain ⟨f81, ef81⟩ : ∃ z, z = fw_up f74 h0 (.inr (7, [.ref pv, .ref q1, .int 0, .int 0, .int 0, .int 0, .ref q44, .ref q61])) := ⟨_, rfl⟩
  have hw : fw_S D A s.heap f81 H locs := by rw [ef81]; exact hw
  have h82 : f81 v9 = some (.inl (y 0, 31, .inl (fillv 0 31))) := by rw [ef81]; exact (fw_up_n (Ne.symm n11)).trans h75
  have h83 : f81 t10 = some (.inl (y 1, 31, .inl (fun _ => (0 : Int32)))) := by rw [ef81]; exact (fw_up_n (Ne.symm n13)).trans h76
  have h84 : f81 q1 = some (.inr (3, [.ref v9, .ref t10])) := by rw [ef81]; exact (fw_up_n (Ne.symm n2)).trans h77
  have h85 : f81 q44 = some (.inl (y 5, 20, .inr (.inr (.inr (.inr (fun _ => none)))))) := by rw [ef81]; exact (fw_up_n (Ne.symm n48)).trans h78
  have h86 : f81 q61 = some (.inl (y 6, 31, .inr (.inr (.inr (.inr (fun _ => none)))))) := by rw [ef81]; exact (fw_up_n (Ne.symm n66)).trans h79
  have h87 : f81 h0 = some (.inr (7, [.ref pv, .ref q1, .int 0, .int 0, .int 0, .int 0, .ref q44, .ref q61])) := by rw [ef81]; exact fw_up_s
  exact fw_vret hx hb hr hlocks hw (Nat.le_of_ble_eq_true rfl) (Nat.le_of_ble_eq_true rfl) dX7_init_59 (⟨q1, v9, t10, q44, q61, hbq1, hbv9, hbt10, hbq44, hbq61, by simp [Ne.symm hdv9, Ne.symm n12, Ne.symm n14, Ne.symm n45, Ne.symm n46, Ne.symm n47, Ne.symm n62, Ne.symm n63, Ne.symm n64, Ne.symm n65, hdv9, n12, n14, n45, n46, n47, n62, n63, n64, n65], h87, h84, h82, h83, h85, h86, fun b z0 z1 z2 z3 z4 z5 => by rw [ef81, fw_up_n z0, ef74, fw_up_n z0, ef67, fw_up_n z5, ef55, fw_up_n z0, ef49, fw_up_n z4, ef39, fw_up_n z0, ef34, fw_up_n z0, ef29, fw_up_n z0, ef24, fw_up_n z0, ef19, fw_up_n z0, ef7, fw_up_n z1, fw_up_n z3, fw_up_n z2, ef3, fw_up_n z1]⟩)
