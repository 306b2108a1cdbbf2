theorem vuo_s {g : Nat → Option Nat} {i : Nat} {v : Option Nat} : va_up g i v i = v := if_pos rfl
theorem vuo_n {g : Nat → Option Nat} {i j : Nat} {v : Option Nat} (h : j ≠ i) : va_up g i v j = g j := if_neg h
theorem nI_ltr {i n : Nat} (h : nI i < nI n) (hi : i < 2 ^ 31) (hn : n < 2 ^ 31) : i < n := by
  rw [Int32.lt_iff_toInt_lt, nI_toInt hi, nI_toInt hn] at h
  omega
theorem nI_gx {i n : Nat} (h : ¬ nI i < nI n) (hi : i < 2 ^ 31) (hn : n < 2 ^ 31) : n ≤ i := by
  rw [Int32.lt_iff_toInt_lt, nI_toInt hi, nI_toInt hn] at h
  omega
/-- how many sheets count, seen by their weeks -/
def cnR (g : Nat → Int32) : Nat → Nat → Nat
  | 0, k => k
  | n + 1, k => if g k = -1 then k else cnR g n (k + 1)
theorem cnR_le {g : Nat → Int32} : ∀ (n k : Nat), cnR g n k ≤ k + n := by
  intro n
  induction n with
  | zero => intro k; exact Nat.le_refl _
  | succ n ih =>
    intro k
    unfold cnR
    by_cases z : g k = -1
    · rw [if_pos z]; omega
    · rw [if_neg z]; have := ih (k + 1); omega
theorem cnR_eq {κ : cS} {α : Nat → Nat → Nat → Nat} {w s q qv : Nat} (hs : s < 20) (hqv : qv < 31) : ∀ (n k : Nat), k + n ≤ 20 → cntU (va_up (shRow κ α w) s (some q)) n k = cnR (va_up (κ 7 w) s (nI qv)) n k := by
  intro n
  induction n with
  | zero => intro k _; rfl
  | succ n ih =>
    intro k hk
    unfold cntU cnR
    rw [ih (k + 1) (by omega)]
    by_cases z : k = s
    · subst z
      rw [vuo_s, va_up_s, if_neg (nI_nm1 (by omega))]
      exact if_pos rfl
    · rw [vuo_n z, va_up_n z]
      unfold shRow
      by_cases z2 : κ 7 w k = -1
      · rw [if_neg (fun q : k < 20 ∧ ¬ κ 7 w k = -1 => q.2 z2), if_pos z2]
        exact if_neg (by decide)
      · rw [if_pos (show k < 20 ∧ ¬ κ 7 w k = -1 from ⟨by omega, z2⟩), if_neg z2]
        exact if_pos rfl
theorem iX8_come_4 : ∀ w ∈ wsX40, w ∈ wsX8_come := by decide +kernel
theorem iX8_come_7 : ∀ w ∈ wsX70, w ∈ wsX8_come := by decide +kernel
set_option maxHeartbeats 4000000 in
set_option maxRecDepth 100000 in
/-- come -/
theorem c_X8_come (l : Launch) (D : va_G) (A : Nat → Prop) (y : Nat → ClassId) (sa : Nat → Nat) (f : fw_F) (hfl : l.stackTraces = false) (α : Nat → Nat → Nat → Nat) (κ : cS) (nw no nt wk : Nat) (p0 p1 p2 p3 p4 : Int32) (hI : Ic nw no nt wk κ) (hR : Rc y nw no nt wk κ α f) : vx_Met l yX8_come wsX8_come ({ frames := 8, cells := 6, slots := 33, locals := 131 } : Room) (cPc D A y sa f [.ref (α 0 0 0), .int p0, .int p1, .int p2, .int p3, .int p4]) (cQi D A (fun r f1 => ∃ w s kv, w < nw ∧ s ≤ 19 ∧ kv ≤ 30 ∧ p0 = nI w ∧ p1 = nI s ∧ p2 = nI kv ∧ inr p3 0 100 ∧ inr p4 0 100 ∧ ((¬ κ 7 w s = -1 ∧ r = κ 4 w 1 ∧ f1 = f) ∨ (κ 7 w s = -1 ∧ ∃ cn α2, cn ≤ 20 ∧ κ 4 w 1 = nI cn ∧ r = (nI (cnR (va_up (κ 7 w) s (nI kv)) (20 - cn) cn)) ∧ α2 0 0 0 = α 0 0 0 ∧ Rc y nw no nt wk (shK κ w s kv p3 p4 (nI (cnR (va_up (κ 7 w) s (nI kv)) (20 - cn) cn))) α2 f1)))) (cX D A f (fun E => (E = nIOB ∧ ¬ inr p0 0 (nI nw - 1)) ∨ (E = nIAE ∧ inr p0 0 (nI nw - 1) ∧ ¬ (inr p1 0 19 ∧ inr p2 0 30 ∧ inr p3 0 100 ∧ inr p4 0 100)))) 6 33 A := by
  refine fw_xmet (by decide) rfl [.ref (α 0 0 0), .int p0, .int p1, .int p2, .int p3, .int p4] (Nat.le_of_ble_eq_true rfl) ?_
  intro p e s m args below meth c ls I htab hE hw hl
  obtain ⟨hx, hb, hr, hts, hown, hlocks, hml⟩ := I
  have hown : s.vm.findClass RX8 = some m.cls := hown
  have hl : lv_has ls 7 [(0, .ref (α 0 0 0)), (1, .int p0), (2, .int p1), (3, .int p2), (4, .int p3), (5, .int p4)] := hl
  obtain ⟨hI1, hI2, hI3, hI4, hI5, hI6, hI7, hI8, hI9, hI10⟩ := id hI
  refine lv_aload_n hx hb dX8_come_0 rfl (lv_at hl 0 rfl) ?_
  refine lv_iload_n hx hb dX8_come_1 rfl (lv_at hl 1 rfl) ?_
  refine fw_tVq hx hb hml hown hts hE hw htab hlocks [.int p0] [] (c_X8_workerOf l D A y sa f hfl α κ nw no nt wk p0 (by omega) hR) (cwV 1 hts gX8_come_X8_workerOf rfl rfl rfl (by decide +kernel) ⟨Nat.le_of_ble_eq_true rfl, Nat.le_of_ble_eq_true rfl⟩) (ci := 8) rfl rfl hR.x rfl hl.1 rfl (Nat.le_of_ble_eq_true rfl) dX8_come_2 ⟨Nat.le_of_ble_eq_true rfl, Nat.le_of_ble_eq_true rfl⟩ (fun E h => Or.inl h) (Nat.le_of_ble_eq_true rfl) (Nat.le_of_ble_eq_true rfl) (fun r1 f2 H locs hp3 hw => ?_)
  obtain ⟨w, hwn, rfl, hp3a, hp3b⟩ := hp3
  rw [hp3b] at hw
  rw [hp3a]
  refine lv_astore (lv' := [(6, .ref (α 3 w 0)), (0, .ref (α 0 0 0)), (1, .int (nI w)), (2, .int p1), (3, .int p2), (4, .int p3), (5, .int p4)]) hx hb dX8_come_5 hl (by decide) rfl (fun ls hl => ?_)
  refine lv_iload_n hx hb dX8_come_7 rfl (lv_at hl 3 rfl) ?_
  refine lv_iconst (v := 0) hx hb dX8_come_8 (by decide) ?_
  refine lv_bipush (v := 19) hx hb dX8_come_9 (by decide) ?_
  refine fw_tSv hx hb hml hown hts hE hw htab hlocks [.int p1, .int 0, .int 19] [] (c_X8_checkRange l D A y sa f hfl p1 0 19) (va_cwS 3 hts gX8_come_X8_checkRange rfl rfl rfl (by decide +kernel) ⟨Nat.le_of_ble_eq_true rfl, Nat.le_of_ble_eq_true rfl⟩) rfl hl.1 rfl (Nat.le_of_ble_eq_true rfl) dX8_come_11 ⟨Nat.le_of_ble_eq_true rfl, Nat.le_of_ble_eq_true rfl⟩ (fun E h => Or.inr ⟨h.1, inr_wI hwn (by omega), fun z => h.2 z.1⟩) (Nat.le_of_ble_eq_true rfl) (Nat.le_of_ble_eq_true rfl) (fun f5 H locs hp6 hw => ?_)
  obtain ⟨hin1, hp6b⟩ := hp6
  rw [hp6b] at hw
  refine lv_iload_n hx hb dX8_come_14 rfl (lv_at hl 4 rfl) ?_
  refine fw_tSv hx hb hml hown hts hE hw htab hlocks [.int p2] [] (c_X8_checkWeek l D A y sa f hfl p2) (va_cwS 1 hts gX8_come_X8_checkWeek rfl rfl rfl (by decide +kernel) ⟨Nat.le_of_ble_eq_true rfl, Nat.le_of_ble_eq_true rfl⟩) rfl hl.1 rfl (Nat.le_of_ble_eq_true rfl) dX8_come_15 ⟨Nat.le_of_ble_eq_true rfl, Nat.le_of_ble_eq_true rfl⟩ (fun E h => Or.inr ⟨h.1, inr_wI hwn (by omega), fun z => h.2 z.2.1⟩) (Nat.le_of_ble_eq_true rfl) (Nat.le_of_ble_eq_true rfl) (fun f8 H locs hp9 hw => ?_)
  obtain ⟨hin2, hp9b⟩ := hp9
  rw [hp9b] at hw
  refine lv_iload hx hb dX8_come_18 (lv_at hl 5 rfl) ?_
  refine lv_iload hx hb dX8_come_20 (lv_at hl 6 rfl) ?_
  refine fw_tSv hx hb hml hown hts hE hw htab hlocks [.int p3, .int p4] [] (c_X8_checkHours l D A y sa f hfl p3 p4) (va_cwS 2 hts gX8_come_X8_checkHours rfl rfl rfl (by decide +kernel) ⟨Nat.le_of_ble_eq_true rfl, Nat.le_of_ble_eq_true rfl⟩) rfl hl.1 rfl (Nat.le_of_ble_eq_true rfl) dX8_come_22 ⟨Nat.le_of_ble_eq_true rfl, Nat.le_of_ble_eq_true rfl⟩ (fun E h => Or.inr ⟨h.1, inr_wI hwn (by omega), fun z => h.2 z.2.2⟩) (Nat.le_of_ble_eq_true rfl) (Nat.le_of_ble_eq_true rfl) (fun f11 H locs hp12 hw => ?_)
  obtain ⟨hhr, hp12b⟩ := hp12
  rw [hp12b] at hw
  obtain ⟨sv, hsv, rfl⟩ := inr_of (n := 19) (by decide) hin1
  obtain ⟨kv, hkv, rfl⟩ := inr_of (n := 30) (by decide) hin2
  refine lv_aload hx hb dX8_come_25 (lv_at hl 0 rfl) ?_
  refine lv_iload_n hx hb dX8_come_27 rfl (lv_at hl 3 rfl) ?_
  refine fw_callVq hx hb hml hown hts hE hw [.int (nI sv)] [] (c_X7_sheet l D A y sa f (α 3 w 0) (α 1 (κ 4 w 0).toNatClampNeg 0) (α 3 w 1) (α 3 w 4) (α 3 w 5) (κ 4 w 1) (κ 4 w 2) (κ 4 w 3) (κ 4 w 4) (nI sv) (shRow κ α w) (hR.w0 hwn) (hR.w4 hwn)) (cwV 1 hts gX8_come_X7_sheet rfl rfl rfl (by decide +kernel) ⟨Nat.le_of_ble_eq_true rfl, Nat.le_of_ble_eq_true rfl⟩) (ci := 7) rfl rfl (hR.w0 hwn) rfl hl.1 rfl (Nat.le_of_ble_eq_true rfl) dX8_come_28 ⟨Nat.le_of_ble_eq_true rfl, Nat.le_of_ble_eq_true rfl⟩ (fun r13 f14 H locs hp15 hw => ?_)
  obtain ⟨hp15a, hp15b⟩ := hp15
  rw [hp15b] at hw
  rw [if_pos ⟨nI_pos' (by omega), nI_lt (b := 20) (by omega) (by decide)⟩, nI_clamp (n := sv) (by omega)] at hp15a
  by_cases hs : κ 7 w sv = -1
  · rw [hp15a, show shRow κ α w sv = none from if_neg (fun z => z.2 hs)]
    obtain ⟨cn, hcn20, hcn⟩ := hI6 w hwn
    have hWo : f (α 3 w 0) = some (.inr (7, [.ref (α 1 (κ 4 w 0).toNatClampNeg 0), .ref (α 3 w 1), .int (nI cn), .int (κ 4 w 2), .int (κ 4 w 3), .int (κ 4 w 4), .ref (α 3 w 4), .ref (α 3 w 5)])) := by rw [← hcn]; exact hR.w0 hwn
    refine lv_ifnonnullN hx hb dX8_come_31 ?_
    refine lv_aload hx hb dX8_come_34 (lv_at hl 0 rfl) ?_
    refine lv_iload_n hx hb dX8_come_36 rfl (lv_at hl 3 rfl) ?_
    refine fw_new hx hb hts hown hE.1.1 hw hE.2.1 (ci := 4) (C := RX4) (T := TX4) (N := 3) (fs := [.int 0, .int 0, .int 0]) iX8_come_4 tyX4 tyX4_ok (by decide +kernel) (by decide +kernel) (by decide +kernel) rfl (fun j hj => by rcases (show j = 0 ∨ j = 1 ∨ j = 2 by omega) with rfl | rfl | rfl <;> rfl) (Nat.le_of_ble_eq_true rfl) (Nat.le_of_ble_eq_true rfl) dX8_come_37 (fun q16 H hnq16 hw => ?_)
    have hbq16 : f q16 = none := hnq16
    have n17 : (α 3 w 0) ≠ q16 := fun z => absurd (hWo.symm.trans ((congrArg f z).trans hnq16)) (by simp)
    have n18 : (α 3 w 4) ≠ q16 := fun z => absurd ((hR.w4 hwn).symm.trans ((congrArg f z).trans hnq16)) (by simp)
    obtain ⟨f19, ef19⟩ : ∃ z, z = fw_up f q16 (.inr (4, [.int 0, .int 0, .int 0])) := ⟨_, rfl⟩
    have hw : fw_S D A s.heap f19 H locs := by rw [ef19]; exact hw
    have h20 : f19 (α 3 w 0) = some (.inr (7, [.ref (α 1 (κ 4 w 0).toNatClampNeg 0), .ref (α 3 w 1), .int (nI cn), .int (κ 4 w 2), .int (κ 4 w 3), .int (κ 4 w 4), .ref (α 3 w 4), .ref (α 3 w 5)])) := by rw [ef19]; exact (fw_up_n n17).trans hWo
    have h21 : f19 (α 3 w 4) = some (.inl (y 5, 20, .inr (.inr (.inr (.inr (shRow κ α w)))))) := by rw [ef19]; exact (fw_up_n n18).trans (hR.w4 hwn)
    have h22 : f19 q16 = some (.inr (4, [.int 0, .int 0, .int 0])) := by rw [ef19]; exact fw_up_s
    refine lv_dup hx hb dX8_come_40 rfl ?_
    refine lv_iload_n hx hb dX8_come_41 rfl (lv_at hl 4 rfl) ?_
    refine lv_iload hx hb dX8_come_42 (lv_at hl 5 rfl) ?_
    refine lv_iload hx hb dX8_come_44 (lv_at hl 6 rfl) ?_
    refine fw_callIv hx hb hml hown hts hE hw [.int (nI kv), .int p3, .int p4] [.ref q16, .int (nI sv), .ref (α 3 w 0)] (c_X4_init l D A y sa f19 q16 (nI kv) p3 p4 h22) (cwI 3 hts gX8_come_X4_init rfl rfl rfl (hts (.initialized RX4) (by decide +kernel)) (hts (.methodLink RX8 116 yX4_init) (by decide +kernel)) (hts (.instanceMethod yX4_init) (by decide +kernel)) rfl (by decide +kernel) ⟨Nat.le_of_ble_eq_true rfl, Nat.le_of_ble_eq_true rfl⟩) rfl hl.1 rfl (Nat.le_of_ble_eq_true rfl) dX8_come_46 ⟨Nat.le_of_ble_eq_true rfl, Nat.le_of_ble_eq_true rfl⟩ (fun f24 H locs hp25 hw => ?_)
    have ef24 := hp25
    have h26 : f24 (α 3 w 0) = some (.inr (7, [.ref (α 1 (κ 4 w 0).toNatClampNeg 0), .ref (α 3 w 1), .int (nI cn), .int (κ 4 w 2), .int (κ 4 w 3), .int (κ 4 w 4), .ref (α 3 w 4), .ref (α 3 w 5)])) := by rw [ef24, fw_up_n n17]; exact h20
    have h27 : f24 (α 3 w 4) = some (.inl (y 5, 20, .inr (.inr (.inr (.inr (shRow κ α w)))))) := by rw [ef24, fw_up_n n18]; exact h21
    have h28 : f24 q16 = some (.inr (4, [.int (nI kv), .int p3, .int p4])) := by rw [ef24]; exact fw_up_s
    refine fw_callVv hx hb hml hown hts hE hw [.int (nI sv), .ref q16] [] (c_X7_take l D A y sa f24 (α 3 w 0) (α 1 (κ 4 w 0).toNatClampNeg 0) (α 3 w 1) (α 3 w 4) (α 3 w 5) (κ 4 w 2) (κ 4 w 3) (κ 4 w 4) sv cn q16 (nI kv) p3 p4 (shRow κ α w) (by omega) (by omega) h26 h27 h28) (cwV 2 hts gX8_come_X7_take rfl rfl rfl (by decide +kernel) ⟨Nat.le_of_ble_eq_true rfl, Nat.le_of_ble_eq_true rfl⟩) (ci := 7) rfl rfl h26 rfl hl.1 rfl (Nat.le_of_ble_eq_true rfl) dX8_come_49 ⟨Nat.le_of_ble_eq_true rfl, Nat.le_of_ble_eq_true rfl⟩ (fun f30 H locs hp31 hw => ?_)
    rw [cnR_eq (qv := kv) (by omega) (by omega) (20 - cn) cn (by omega)] at hp31
    have ef30 := hp31
    have h32 : f30 q16 = some (.inr (4, [.int (nI kv), .int p3, .int p4])) := by rw [ef30, fw_up_n (Ne.symm n17), fw_up_n (Ne.symm n18)]; exact h28
    have h33 : f30 (α 3 w 4) = some (.inl (y 5, 20, .inr (.inr (.inr (.inr (va_up (shRow κ α w) sv (some q16))))))) := by rw [ef30, fw_up_n (fw_ne2 h27 h26 (by simp))]; exact fw_up_s
    have h34 : f30 (α 3 w 0) = some (.inr (7, [.ref (α 1 (κ 4 w 0).toNatClampNeg 0), .ref (α 3 w 1), .int (nI (cnR (va_up (κ 7 w) sv (nI kv)) (20 - cn) cn)), .int (κ 4 w 2), .int (κ 4 w 3), .int (κ 4 w 4), .ref (α 3 w 4), .ref (α 3 w 5)])) := by rw [ef30]; exact fw_up_s
    refine lv_aload hx hb dX8_come_52 (lv_at hl 0 rfl) ?_
    refine fw_get hx hb hts hown hE.1.1 hw (ci := 7) (fs := [.ref (α 1 (κ 4 w 0).toNatClampNeg 0), .ref (α 3 w 1), .int (nI (cnR (va_up (κ 7 w) sv (nI kv)) (20 - cn) cn)), .int (κ 4 w 2), .int (κ 4 w 3), .int (κ 4 w 4), .ref (α 3 w 4), .ref (α 3 w 5)]) (v := .int (nI (cnR (va_up (κ 7 w) sv (nI kv)) (20 - cn) cn))) h34 iX8_come_7 rfl 2 (by decide) rfl (by decide +kernel) dX8_come_54 ?_
    exact vx_ret (fw_iret hx hb hr hlocks hw (Nat.le_of_ble_eq_true rfl) (Nat.le_of_ble_eq_true rfl) dX8_come_57 (⟨w, sv, kv, hwn, hsv, hkv, rfl, rfl, rfl, hhr.1, hhr.2, Or.inr ⟨hs, cn, _, hcn20, hcn, rfl, aUp_k (K := 4) (show 0 ≠ 4 by decide), by rw [ef30, ef24, ef19, fw_up_up]; exact hR.newS hwn (by omega) hs (by omega) p3 p4 _ hbq16⟩⟩))
  · rw [hp15a, show shRow κ α w sv = some (α 4 w sv) from if_pos ⟨by omega, hs⟩]
    refine lv_ifnonnull (tgt := 52) hx hb dX8_come_31 (by decide) ?_
    refine lv_aload hx hb dX8_come_52 (lv_at hl 0 rfl) ?_
    refine fw_get hx hb hts hown hE.1.1 hw (ci := 7) (fs := [.ref (α 1 (κ 4 w 0).toNatClampNeg 0), .ref (α 3 w 1), .int (κ 4 w 1), .int (κ 4 w 2), .int (κ 4 w 3), .int (κ 4 w 4), .ref (α 3 w 4), .ref (α 3 w 5)]) (v := .int (κ 4 w 1)) (hR.w0 hwn) iX8_come_7 rfl 2 (by decide) rfl (by decide +kernel) dX8_come_54 ?_
    exact vx_ret (fw_iret hx hb hr hlocks hw (Nat.le_of_ble_eq_true rfl) (Nat.le_of_ble_eq_true rfl) dX8_come_57 (⟨w, sv, kv, hwn, hsv, hkv, rfl, rfl, rfl, hhr.1, hhr.2, Or.inl ⟨hs, rfl, rfl⟩⟩))

theorem iX8_order_0 : ∀ w ∈ wsX00, w ∈ wsX8_order := by decide +kernel
theorem iX8_order_8 : ∀ w ∈ wsX80, w ∈ wsX8_order := by decide +kernel
set_option maxHeartbeats 4000000 in
set_option maxRecDepth 100000 in
/-- order -/
theorem c_X8_order (l : Launch) (D : va_G) (A : Nat → Prop) (y : Nat → ClassId) (sa : Nat → Nat) (f : fw_F) (hfl : l.stackTraces = false) (α : Nat → Nat → Nat → Nat) (κ : cS) (nw no nt wk : Nat) (p0 p1 p2 p3 : Int32) (hI : Ic nw no nt wk κ) (hR : Rc y nw no nt wk κ α f) : vx_Met l yX8_order wsX8_order ({ frames := 7, cells := 5, slots := 30, locals := 110 } : Room) (cPc D A y sa f [.ref (α 0 0 0), .int p0, .int p1, .int p2, .int p3]) (cQi D A (fun r f1 => ∃ w α2, w < nw ∧ p0 = nI w ∧ inr p1 0 2 ∧ inr p2 1 10000000 ∧ inr p3 1 1000000 ∧ no < 20 ∧ r = nI no ∧ α2 0 0 0 = α 0 0 0 ∧ Rc y nw (no + 1) nt wk (upF κ 15 no (orow w p1 p2 p3)) α2 f1)) (cX D A f (fun E => (E = nIOB ∧ ¬ inr p0 0 (nI nw - 1)) ∨ (E = nIAE ∧ inr p0 0 (nI nw - 1) ∧ ¬ (inr p1 0 2 ∧ inr p2 1 10000000 ∧ inr p3 1 1000000)) ∨ (E = nISE ∧ inr p0 0 (nI nw - 1) ∧ (inr p1 0 2 ∧ inr p2 1 10000000 ∧ inr p3 1 1000000) ∧ no = 20))) 5 30 A := by
  refine fw_xmet (by decide) rfl [.ref (α 0 0 0), .int p0, .int p1, .int p2, .int p3] (Nat.le_of_ble_eq_true rfl) ?_
  intro p e s m args below meth c ls I htab hE hw hl
  obtain ⟨hx, hb, hr, hts, hown, hlocks, hml⟩ := I
  have hown : s.vm.findClass RX8 = some m.cls := hown
  have hl : lv_has ls 6 [(0, .ref (α 0 0 0)), (1, .int p0), (2, .int p1), (3, .int p2), (4, .int p3)] := hl
  obtain ⟨hI1, hI2, hI3, hI4, hI5, hI6, hI7, hI8, hI9, hI10⟩ := id hI
  refine lv_aload_n hx hb dX8_order_0 rfl (lv_at hl 0 rfl) ?_
  refine lv_iload_n hx hb dX8_order_1 rfl (lv_at hl 1 rfl) ?_
  refine fw_tVq hx hb hml hown hts hE hw htab hlocks [.int p0] [] (c_X8_workerOf l D A y sa f hfl α κ nw no nt wk p0 (by omega) hR) (cwV 1 hts gX8_order_X8_workerOf rfl rfl rfl (by decide +kernel) ⟨Nat.le_of_ble_eq_true rfl, Nat.le_of_ble_eq_true rfl⟩) (ci := 8) rfl rfl hR.x rfl hl.1 rfl (Nat.le_of_ble_eq_true rfl) dX8_order_2 ⟨Nat.le_of_ble_eq_true rfl, Nat.le_of_ble_eq_true rfl⟩ (fun E h => Or.inl h) (Nat.le_of_ble_eq_true rfl) (Nat.le_of_ble_eq_true rfl) (fun r1 f2 H locs hp3 hw => ?_)
  obtain ⟨w, hwn, rfl, hp3a, hp3b⟩ := hp3
  rw [hp3b] at hw
  rw [hp3a]
  refine lv_astore (lv' := [(5, .ref (α 3 w 0)), (0, .ref (α 0 0 0)), (1, .int (nI w)), (2, .int p1), (3, .int p2), (4, .int p3)]) hx hb dX8_order_5 hl (by decide) rfl (fun ls hl => ?_)
  refine lv_iload_n hx hb dX8_order_7 rfl (lv_at hl 3 rfl) ?_
  refine lv_iconst (v := 0) hx hb dX8_order_8 (by decide) ?_
  refine lv_iconst (v := 2) hx hb dX8_order_9 (by decide) ?_
  refine fw_tSv hx hb hml hown hts hE hw htab hlocks [.int p1, .int 0, .int 2] [] (c_X8_checkRange l D A y sa f hfl p1 0 2) (va_cwS 3 hts gX8_order_X8_checkRange rfl rfl rfl (by decide +kernel) ⟨Nat.le_of_ble_eq_true rfl, Nat.le_of_ble_eq_true rfl⟩) rfl hl.1 rfl (Nat.le_of_ble_eq_true rfl) dX8_order_10 ⟨Nat.le_of_ble_eq_true rfl, Nat.le_of_ble_eq_true rfl⟩ (fun E h => Or.inr (Or.inl ⟨h.1, inr_wI hwn (by omega), fun z => h.2 z.1⟩)) (Nat.le_of_ble_eq_true rfl) (Nat.le_of_ble_eq_true rfl) (fun f5 H locs hp6 hw => ?_)
  obtain ⟨hin1, hp6b⟩ := hp6
  rw [hp6b] at hw
  refine lv_iload_n hx hb dX8_order_13 rfl (lv_at hl 4 rfl) ?_
  refine lv_iconst (v := 1) hx hb dX8_order_14 (by decide) ?_
  refine lv_ldc (own := RX8) (v := 10000000) hx hb hown (hts (.constant RX8 138 (10000000)) (by decide +kernel)) dX8_order_15 ?_
  refine fw_tSv hx hb hml hown hts hE hw htab hlocks [.int p2, .int 1, .int 10000000] [] (c_X8_checkRange l D A y sa f hfl p2 1 10000000) (va_cwS 3 hts gX8_order_X8_checkRange rfl rfl rfl (by decide +kernel) ⟨Nat.le_of_ble_eq_true rfl, Nat.le_of_ble_eq_true rfl⟩) rfl hl.1 rfl (Nat.le_of_ble_eq_true rfl) dX8_order_17 ⟨Nat.le_of_ble_eq_true rfl, Nat.le_of_ble_eq_true rfl⟩ (fun E h => Or.inr (Or.inl ⟨h.1, inr_wI hwn (by omega), fun z => h.2 z.2.1⟩)) (Nat.le_of_ble_eq_true rfl) (Nat.le_of_ble_eq_true rfl) (fun f8 H locs hp9 hw => ?_)
  obtain ⟨hin2, hp9b⟩ := hp9
  rw [hp9b] at hw
  refine lv_iload hx hb dX8_order_20 (lv_at hl 5 rfl) ?_
  refine lv_iconst (v := 1) hx hb dX8_order_22 (by decide) ?_
  refine lv_ldc (own := RX8) (v := 1000000) hx hb hown (hts (.constant RX8 139 (1000000)) (by decide +kernel)) dX8_order_23 ?_
  refine fw_tSv hx hb hml hown hts hE hw htab hlocks [.int p3, .int 1, .int 1000000] [] (c_X8_checkRange l D A y sa f hfl p3 1 1000000) (va_cwS 3 hts gX8_order_X8_checkRange rfl rfl rfl (by decide +kernel) ⟨Nat.le_of_ble_eq_true rfl, Nat.le_of_ble_eq_true rfl⟩) rfl hl.1 rfl (Nat.le_of_ble_eq_true rfl) dX8_order_25 ⟨Nat.le_of_ble_eq_true rfl, Nat.le_of_ble_eq_true rfl⟩ (fun E h => Or.inr (Or.inl ⟨h.1, inr_wI hwn (by omega), fun z => h.2 z.2.2⟩)) (Nat.le_of_ble_eq_true rfl) (Nat.le_of_ble_eq_true rfl) (fun f11 H locs hp12 hw => ?_)
  obtain ⟨hin3, hp12b⟩ := hp12
  rw [hp12b] at hw
  refine lv_aload_n hx hb dX8_order_28 rfl (lv_at hl 1 rfl) ?_
  refine fw_get hx hb hts hown hE.1.1 hw (ci := 8) (fs := [.ref (α 0 0 1), .ref (α 0 0 2), .ref (α 0 0 3), .ref (α 0 0 4), .ref (α 0 0 5), .int (nI nw), .int (nI no), .int (nI nt), .int (κ 0 0 0), .int (nI wk)]) (v := .int (nI no)) hR.x iX8_order_8 rfl 6 (by decide) rfl (by decide +kernel) dX8_order_29 ?_
  refine lv_if_lt (tgt := 47) hx hb dX8_order_32 (by decide) (fun c_13 => ?_) (fun c_13 => ?_)
  · exact absurd c_13 (Int32.not_lt.mpr (nI_pos' (by omega)))
  · refine lv_aload_n hx hb dX8_order_35 rfl (lv_at hl 1 rfl) ?_
    refine fw_get hx hb hts hown hE.1.1 hw (ci := 8) (fs := [.ref (α 0 0 1), .ref (α 0 0 2), .ref (α 0 0 3), .ref (α 0 0 4), .ref (α 0 0 5), .int (nI nw), .int (nI no), .int (nI nt), .int (κ 0 0 0), .int (nI wk)]) (v := .int (nI no)) hR.x iX8_order_8 rfl 6 (by decide) rfl (by decide +kernel) dX8_order_36 ?_
    refine lv_aload_n hx hb dX8_order_39 rfl (lv_at hl 1 rfl) ?_
    refine fw_get hx hb hts hown hE.1.1 hw (ci := 8) (fs := [.ref (α 0 0 1), .ref (α 0 0 2), .ref (α 0 0 3), .ref (α 0 0 4), .ref (α 0 0 5), .int (nI nw), .int (nI no), .int (nI nt), .int (κ 0 0 0), .int (nI wk)]) (v := .ref (α 0 0 4)) hR.x iX8_order_8 rfl 3 (by decide) rfl (by decide +kernel) dX8_order_40 ?_
    refine fw_alen hx hb hE.1.1 hw hR.x4 2 rfl (v := 20) rfl dX8_order_43 ?_
    refine lv_icmp_lt (tgt := 57) hx hb dX8_order_44 (by decide) (fun c_14 => ?_) (fun c_14 => ?_)
    · have hroom : no < 20 := nI_ltr (n := 20) c_14 (by omega) (by decide)
      refine lv_aload_n hx hb dX8_order_57 rfl (lv_at hl 1 rfl) ?_
      refine fw_get hx hb hts hown hE.1.1 hw (ci := 8) (fs := [.ref (α 0 0 1), .ref (α 0 0 2), .ref (α 0 0 3), .ref (α 0 0 4), .ref (α 0 0 5), .int (nI nw), .int (nI no), .int (nI nt), .int (κ 0 0 0), .int (nI wk)]) (v := .ref (α 0 0 4)) hR.x iX8_order_8 rfl 3 (by decide) rfl (by decide +kernel) dX8_order_58 ?_
      refine lv_aload_n hx hb dX8_order_61 rfl (lv_at hl 1 rfl) ?_
      refine fw_get hx hb hts hown hE.1.1 hw (ci := 8) (fs := [.ref (α 0 0 1), .ref (α 0 0 2), .ref (α 0 0 3), .ref (α 0 0 4), .ref (α 0 0 5), .int (nI nw), .int (nI no), .int (nI nt), .int (κ 0 0 0), .int (nI wk)]) (v := .int (nI no)) hR.x iX8_order_8 rfl 6 (by decide) rfl (by decide +kernel) dX8_order_62 ?_
      refine fw_new hx hb hts hown hE.1.1 hw hE.2.1 (ci := 0) (C := RX0) (T := TX0) (N := 4) (fs := [.null, .int 0, .int 0, .int 0]) iX8_order_0 tyX0 tyX0_ok (by decide +kernel) (by decide +kernel) (by decide +kernel) rfl (fun j hj => by rcases (show j = 0 ∨ j = 1 ∨ j = 2 ∨ j = 3 by omega) with rfl | rfl | rfl | rfl <;> rfl) (Nat.le_of_ble_eq_true rfl) (Nat.le_of_ble_eq_true rfl) dX8_order_65 (fun q15 H hnq15 hw => ?_)
      have hbq15 : f q15 = none := hnq15
      have n16 : (α 0 0 0) ≠ q15 := fun z => absurd (hR.x.symm.trans ((congrArg f z).trans hnq15)) (by simp)
      have n17 : (α 0 0 4) ≠ q15 := fun z => absurd (hR.x4.symm.trans ((congrArg f z).trans hnq15)) (by simp)
      obtain ⟨f18, ef18⟩ : ∃ z, z = fw_up f q15 (.inr (0, [.null, .int 0, .int 0, .int 0])) := ⟨_, rfl⟩
      have hw : fw_S D A s.heap f18 H locs := by rw [ef18]; exact hw
      have h19 : f18 (α 0 0 0) = some (.inr (8, [.ref (α 0 0 1), .ref (α 0 0 2), .ref (α 0 0 3), .ref (α 0 0 4), .ref (α 0 0 5), .int (nI nw), .int (nI no), .int (nI nt), .int (κ 0 0 0), .int (nI wk)])) := by rw [ef18]; exact (fw_up_n n16).trans hR.x
      have h20 : f18 (α 0 0 4) = some (.inl (y 2, 20, .inr (.inr (.inr (.inr (fun e => if e < no then some (α 6 e 0) else none)))))) := by rw [ef18]; exact (fw_up_n n17).trans hR.x4
      have h21 : f18 q15 = some (.inr (0, [.null, .int 0, .int 0, .int 0])) := by rw [ef18]; exact fw_up_s
      refine lv_dup hx hb dX8_order_68 rfl ?_
      refine lv_aload hx hb dX8_order_69 (lv_at hl 0 rfl) ?_
      refine lv_iload_n hx hb dX8_order_71 rfl (lv_at hl 3 rfl) ?_
      refine lv_iload_n hx hb dX8_order_72 rfl (lv_at hl 4 rfl) ?_
      refine lv_iload hx hb dX8_order_73 (lv_at hl 5 rfl) ?_
      refine fw_callIv hx hb hml hown hts hE hw [.ref (α 3 w 0), .int p1, .int p2, .int p3] [.ref q15, .int (nI no), .ref (α 0 0 4)] (c_X0_init l D A y sa f18 q15 (α 3 w 0) p1 p2 p3 h21) (cwI 4 hts gX8_order_X0_init rfl rfl rfl (hts (.initialized RX0) (by decide +kernel)) (hts (.methodLink RX8 142 yX0_init) (by decide +kernel)) (hts (.instanceMethod yX0_init) (by decide +kernel)) rfl (by decide +kernel) ⟨Nat.le_of_ble_eq_true rfl, Nat.le_of_ble_eq_true rfl⟩) rfl hl.1 rfl (Nat.le_of_ble_eq_true rfl) dX8_order_75 ⟨Nat.le_of_ble_eq_true rfl, Nat.le_of_ble_eq_true rfl⟩ (fun f23 H locs hp24 hw => ?_)
      have ef23 := hp24
      have h25 : f23 (α 0 0 0) = some (.inr (8, [.ref (α 0 0 1), .ref (α 0 0 2), .ref (α 0 0 3), .ref (α 0 0 4), .ref (α 0 0 5), .int (nI nw), .int (nI no), .int (nI nt), .int (κ 0 0 0), .int (nI wk)])) := by rw [ef23, fw_up_n n16]; exact h19
      have h26 : f23 (α 0 0 4) = some (.inl (y 2, 20, .inr (.inr (.inr (.inr (fun e => if e < no then some (α 6 e 0) else none)))))) := by rw [ef23, fw_up_n n17]; exact h20
      have h27 : f23 q15 = some (.inr (0, [.ref (α 3 w 0), .int p1, .int p2, .int p3])) := by rw [ef23]; exact fw_up_s
      refine fw_aast (r := (RX0, TX0, 4)) hx hb hE.1.1 hw (g := (fun e => if e < no then some (α 6 e 0) else none)) h26 2 rfl h27 rfl (vp_in_nI (by omega) (by decide)) dX8_order_78 (fun H locs hw => ?_)
      rw [nI_clamp (n := no) (by omega)] at hw
      obtain ⟨f28, ef28⟩ : ∃ z, z = fw_up f23 (α 0 0 4) (.inl (y 2, 20, .inr (.inr (.inr (.inr (va_up (fun e => if e < no then some (α 6 e 0) else none) no (some q15))))))) := ⟨_, rfl⟩
      have hw : fw_S D A s.heap f28 H locs := by rw [ef28]; exact hw
      have h29 : f28 (α 0 0 0) = some (.inr (8, [.ref (α 0 0 1), .ref (α 0 0 2), .ref (α 0 0 3), .ref (α 0 0 4), .ref (α 0 0 5), .int (nI nw), .int (nI no), .int (nI nt), .int (κ 0 0 0), .int (nI wk)])) := by rw [ef28]; exact (fw_up_n (fw_ne2 h25 h26 (by simp))).trans h25
      have h30 : f28 q15 = some (.inr (0, [.ref (α 3 w 0), .int p1, .int p2, .int p3])) := by rw [ef28]; exact (fw_up_n (Ne.symm n17)).trans h27
      have h31 : f28 (α 0 0 4) = some (.inl (y 2, 20, .inr (.inr (.inr (.inr (va_up (fun e => if e < no then some (α 6 e 0) else none) no (some q15))))))) := by rw [ef28]; exact fw_up_s
      refine lv_aload_n hx hb dX8_order_79 rfl (lv_at hl 1 rfl) ?_
      refine lv_dup hx hb dX8_order_80 rfl ?_
      refine fw_get hx hb hts hown hE.1.1 hw (ci := 8) (fs := [.ref (α 0 0 1), .ref (α 0 0 2), .ref (α 0 0 3), .ref (α 0 0 4), .ref (α 0 0 5), .int (nI nw), .int (nI no), .int (nI nt), .int (κ 0 0 0), .int (nI wk)]) (v := .int (nI no)) h29 iX8_order_8 rfl 6 (by decide) rfl (by decide +kernel) dX8_order_81 ?_
      refine lv_dup_x1 hx hb dX8_order_84 rfl rfl ?_
      refine lv_iconst (v := 1) hx hb dX8_order_85 (by decide) ?_
      refine lv_iadd hx hb dX8_order_86 ?_
      refine fw_put hx hb hts hown hE.1.1 hw (ci := 8) (fs := [.ref (α 0 0 1), .ref (α 0 0 2), .ref (α 0 0 3), .ref (α 0 0 4), .ref (α 0 0 5), .int (nI nw), .int (nI no), .int (nI nt), .int (κ 0 0 0), .int (nI wk)]) (v := .int ((nI no) + 1)) h29 iX8_order_8 tyX8 tyX8_ok nmX8 rfl 6 (by decide) rfl rfl rfl (Nat.le_of_ble_eq_true rfl) (by decide +kernel) dX8_order_87 (fun H locs hw => ?_)
      obtain ⟨f32, ef32⟩ : ∃ z, z = fw_up f28 (α 0 0 0) (.inr (8, [.ref (α 0 0 1), .ref (α 0 0 2), .ref (α 0 0 3), .ref (α 0 0 4), .ref (α 0 0 5), .int (nI nw), .int ((nI no) + 1), .int (nI nt), .int (κ 0 0 0), .int (nI wk)])) := ⟨_, rfl⟩
      have hw : fw_S D A s.heap f32 H locs := by rw [ef32]; exact hw
      have h33 : f32 q15 = some (.inr (0, [.ref (α 3 w 0), .int p1, .int p2, .int p3])) := by rw [ef32]; exact (fw_up_n (Ne.symm n16)).trans h30
      have h34 : f32 (α 0 0 4) = some (.inl (y 2, 20, .inr (.inr (.inr (.inr (va_up (fun e => if e < no then some (α 6 e 0) else none) no (some q15))))))) := by rw [ef32]; exact (fw_up_n (fw_ne2 h31 h29 (by simp))).trans h31
      have h35 : f32 (α 0 0 0) = some (.inr (8, [.ref (α 0 0 1), .ref (α 0 0 2), .ref (α 0 0 3), .ref (α 0 0 4), .ref (α 0 0 5), .int (nI nw), .int ((nI no) + 1), .int (nI nt), .int (κ 0 0 0), .int (nI wk)])) := by rw [ef32]; exact fw_up_s
      exact vx_ret (fw_iret hx hb hr hlocks hw (Nat.le_of_ble_eq_true rfl) (Nat.le_of_ble_eq_true rfl) dX8_order_90 (⟨w, _, hwn, rfl, hin1, hin2, hin3, hroom, rfl, aUp_k (K := 6) (show 0 ≠ 6 by decide), by rw [ef32, ef28, ef23, ef18, fw_up_up, nI_1]; exact hR.newO (by omega) p1 p2 p3 hbq15⟩))
    · have hfull : no = 20 := Nat.le_antisymm (by omega) (nI_gx (n := 20) c_14 (by omega) (by decide))
      exact fw_throw (ic := 65) (ik := 61) (is := 140) (cls := nISE) (text := "no more orders") hx hb hfl hts hown hE hw htab hlocks thISE (fun w h => List.mem_cons_of_mem _ (List.mem_append_left _ (List.mem_append_left _ (List.mem_append_right _ h)))) (by decide +kernel) (by decide +kernel) (by decide +kernel) (hl.1.trans hml.symm) dX8_order_47 dX8_order_50 dX8_order_51 dX8_order_53 dX8_order_56 (Nat.le_of_ble_eq_true rfl) (Nat.le_of_ble_eq_true rfl) (Nat.le_of_ble_eq_true rfl) (Nat.le_of_ble_eq_true rfl) (Or.inr (Or.inr ⟨rfl, inr_wI hwn (by omega), ⟨hin1, hin2, hin3⟩, hfull⟩)) (Nat.le_of_ble_eq_true rfl) (Nat.le_of_ble_eq_true rfl)

theorem iX8_fill_6 : ∀ w ∈ wsX60, w ∈ wsX8_fill := by decide +kernel
theorem iX8_fill_8 : ∀ w ∈ wsX80, w ∈ wsX8_fill := by decide +kernel
set_option maxHeartbeats 4000000 in
set_option maxRecDepth 100000 in
/-- fill -/
theorem c_X8_fill (l : Launch) (D : va_G) (A : Nat → Prop) (y : Nat → ClassId) (sa : Nat → Nat) (f : fw_F) (hfl : l.stackTraces = false) (α : Nat → Nat → Nat → Nat) (κ : cS) (nw no nt wk : Nat) (p0 p1 : Int32) (hI : Ic nw no nt wk κ) (hR : Rc y nw no nt wk κ α f) : vx_Met l yX8_fill wsX8_fill ({ frames := 7, cells := 3, slots := 18, locals := 110 } : Room) (cPc D A y sa f [.ref (α 0 0 0), .int p0, .int p1]) (cQi D A (fun r f1 => ∃ ev α2, ev < 3 ∧ p0 = nI ev ∧ inr p1 1 10000000 ∧ nt < 40 ∧ r = nI nt ∧ α2 0 0 0 = α 0 0 0 ∧ Rc y nw no (nt + 1) wk (upF (upF κ 16 nt (orow ev p1 0 0)) 1 ev (va_up (va_up ((upF κ 16 nt (orow ev p1 0 0)) 1 ev) 0 (κ 1 ev 0 + (p1 - (if p1 < κ 1 ev 1 then p1 else κ 1 ev 1)))) 1 (κ 1 ev 1 - (if p1 < κ 1 ev 1 then p1 else κ 1 ev 1)))) α2 f1)) (cX D A f (fun E => (E = nIOB ∧ ¬ inr p0 0 2) ∨ (E = nIAE ∧ inr p0 0 2 ∧ ¬ inr p1 1 10000000) ∨ (E = nISE ∧ inr p0 0 2 ∧ inr p1 1 10000000 ∧ nt = 40))) 3 18 A := by
  refine fw_xmet (by decide) rfl [.ref (α 0 0 0), .int p0, .int p1] (Nat.le_of_ble_eq_true rfl) ?_
  intro p e s m args below meth c ls I htab hE hw hl
  obtain ⟨hx, hb, hr, hts, hown, hlocks, hml⟩ := I
  have hown : s.vm.findClass RX8 = some m.cls := hown
  have hl : lv_has ls 4 [(0, .ref (α 0 0 0)), (1, .int p0), (2, .int p1)] := hl
  obtain ⟨hI1, hI2, hI3, hI4, hI5, hI6, hI7, hI8, hI9, hI10⟩ := id hI
  refine lv_aload_n hx hb dX8_fill_0 rfl (lv_at hl 0 rfl) ?_
  refine lv_iload_n hx hb dX8_fill_1 rfl (lv_at hl 1 rfl) ?_
  refine fw_tVq hx hb hml hown hts hE hw htab hlocks [.int p0] [] (c_X8_potOf l D A y sa f hfl α κ nw no nt wk p0 hR) (cwV 1 hts gX8_fill_X8_potOf rfl rfl rfl (by decide +kernel) ⟨Nat.le_of_ble_eq_true rfl, Nat.le_of_ble_eq_true rfl⟩) (ci := 8) rfl rfl hR.x rfl hl.1 rfl (Nat.le_of_ble_eq_true rfl) dX8_fill_2 ⟨Nat.le_of_ble_eq_true rfl, Nat.le_of_ble_eq_true rfl⟩ (fun E h => Or.inl h) (Nat.le_of_ble_eq_true rfl) (Nat.le_of_ble_eq_true rfl) (fun r1 f2 H locs hp3 hw => ?_)
  obtain ⟨ev, hev, rfl, hp3a, hp3b⟩ := hp3
  rw [hp3b] at hw
  rw [hp3a]
  refine lv_astore_n (lv' := [(3, .ref (α 1 ev 0)), (0, .ref (α 0 0 0)), (1, .int (nI ev)), (2, .int p1)]) hx hb dX8_fill_5 rfl hl (by decide) rfl (fun ls hl => ?_)
  refine lv_iload_n hx hb dX8_fill_6 rfl (lv_at hl 3 rfl) ?_
  refine lv_iconst (v := 1) hx hb dX8_fill_7 (by decide) ?_
  refine lv_ldc (own := RX8) (v := 10000000) hx hb hown (hts (.constant RX8 138 (10000000)) (by decide +kernel)) dX8_fill_8 ?_
  refine fw_tSv hx hb hml hown hts hE hw htab hlocks [.int p1, .int 1, .int 10000000] [] (c_X8_checkRange l D A y sa f hfl p1 1 10000000) (va_cwS 3 hts gX8_fill_X8_checkRange rfl rfl rfl (by decide +kernel) ⟨Nat.le_of_ble_eq_true rfl, Nat.le_of_ble_eq_true rfl⟩) rfl hl.1 rfl (Nat.le_of_ble_eq_true rfl) dX8_fill_10 ⟨Nat.le_of_ble_eq_true rfl, Nat.le_of_ble_eq_true rfl⟩ (fun E h => Or.inr (Or.inl ⟨h.1, inr_nI (n := 2) (by omega) (by decide), h.2⟩)) (Nat.le_of_ble_eq_true rfl) (Nat.le_of_ble_eq_true rfl) (fun f5 H locs hp6 hw => ?_)
  obtain ⟨hin1, hp6b⟩ := hp6
  rw [hp6b] at hw
  refine lv_aload_n hx hb dX8_fill_13 rfl (lv_at hl 1 rfl) ?_
  refine fw_get hx hb hts hown hE.1.1 hw (ci := 8) (fs := [.ref (α 0 0 1), .ref (α 0 0 2), .ref (α 0 0 3), .ref (α 0 0 4), .ref (α 0 0 5), .int (nI nw), .int (nI no), .int (nI nt), .int (κ 0 0 0), .int (nI wk)]) (v := .int (nI nt)) hR.x iX8_fill_8 rfl 7 (by decide) rfl (by decide +kernel) dX8_fill_14 ?_
  refine lv_if_lt (tgt := 32) hx hb dX8_fill_17 (by decide) (fun c_7 => ?_) (fun c_7 => ?_)
  · exact absurd c_7 (Int32.not_lt.mpr (nI_pos' (by omega)))
  · refine lv_aload_n hx hb dX8_fill_20 rfl (lv_at hl 1 rfl) ?_
    refine fw_get hx hb hts hown hE.1.1 hw (ci := 8) (fs := [.ref (α 0 0 1), .ref (α 0 0 2), .ref (α 0 0 3), .ref (α 0 0 4), .ref (α 0 0 5), .int (nI nw), .int (nI no), .int (nI nt), .int (κ 0 0 0), .int (nI wk)]) (v := .int (nI nt)) hR.x iX8_fill_8 rfl 7 (by decide) rfl (by decide +kernel) dX8_fill_21 ?_
    refine lv_aload_n hx hb dX8_fill_24 rfl (lv_at hl 1 rfl) ?_
    refine fw_get hx hb hts hown hE.1.1 hw (ci := 8) (fs := [.ref (α 0 0 1), .ref (α 0 0 2), .ref (α 0 0 3), .ref (α 0 0 4), .ref (α 0 0 5), .int (nI nw), .int (nI no), .int (nI nt), .int (κ 0 0 0), .int (nI wk)]) (v := .ref (α 0 0 5)) hR.x iX8_fill_8 rfl 4 (by decide) rfl (by decide +kernel) dX8_fill_25 ?_
    refine fw_alen hx hb hE.1.1 hw hR.x5 7 rfl (v := 40) rfl dX8_fill_28 ?_
    refine lv_icmp_lt (tgt := 42) hx hb dX8_fill_29 (by decide) (fun c_8 => ?_) (fun c_8 => ?_)
    · have hroom : nt < 40 := nI_ltr (n := 40) c_8 (by omega) (by decide)
      refine lv_aload_n hx hb dX8_fill_42 rfl (lv_at hl 1 rfl) ?_
      refine fw_get hx hb hts hown hE.1.1 hw (ci := 8) (fs := [.ref (α 0 0 1), .ref (α 0 0 2), .ref (α 0 0 3), .ref (α 0 0 4), .ref (α 0 0 5), .int (nI nw), .int (nI no), .int (nI nt), .int (κ 0 0 0), .int (nI wk)]) (v := .ref (α 0 0 5)) hR.x iX8_fill_8 rfl 4 (by decide) rfl (by decide +kernel) dX8_fill_43 ?_
      refine lv_aload_n hx hb dX8_fill_46 rfl (lv_at hl 1 rfl) ?_
      refine fw_get hx hb hts hown hE.1.1 hw (ci := 8) (fs := [.ref (α 0 0 1), .ref (α 0 0 2), .ref (α 0 0 3), .ref (α 0 0 4), .ref (α 0 0 5), .int (nI nw), .int (nI no), .int (nI nt), .int (κ 0 0 0), .int (nI wk)]) (v := .int (nI nt)) hR.x iX8_fill_8 rfl 7 (by decide) rfl (by decide +kernel) dX8_fill_47 ?_
      refine fw_new hx hb hts hown hE.1.1 hw hE.2.1 (ci := 6) (C := RX6) (T := TX6) (N := 3) (fs := [.null, .int 0, .int 0]) iX8_fill_6 tyX6 tyX6_ok (by decide +kernel) (by decide +kernel) (by decide +kernel) rfl (fun j hj => by rcases (show j = 0 ∨ j = 1 ∨ j = 2 by omega) with rfl | rfl | rfl <;> rfl) (Nat.le_of_ble_eq_true rfl) (Nat.le_of_ble_eq_true rfl) dX8_fill_50 (fun q9 H hnq9 hw => ?_)
      have hbq9 : f q9 = none := hnq9
      have n10 : (α 0 0 0) ≠ q9 := fun z => absurd (hR.x.symm.trans ((congrArg f z).trans hnq9)) (by simp)
      have n11 : (α 0 0 5) ≠ q9 := fun z => absurd (hR.x5.symm.trans ((congrArg f z).trans hnq9)) (by simp)
      have n12 : (α 1 ev 0) ≠ q9 := fun z => absurd ((hR.p hev).symm.trans ((congrArg f z).trans hnq9)) (by simp)
      obtain ⟨f13, ef13⟩ : ∃ z, z = fw_up f q9 (.inr (6, [.null, .int 0, .int 0])) := ⟨_, rfl⟩
      have hw : fw_S D A s.heap f13 H locs := by rw [ef13]; exact hw
      have h14 : f13 (α 0 0 0) = some (.inr (8, [.ref (α 0 0 1), .ref (α 0 0 2), .ref (α 0 0 3), .ref (α 0 0 4), .ref (α 0 0 5), .int (nI nw), .int (nI no), .int (nI nt), .int (κ 0 0 0), .int (nI wk)])) := by rw [ef13]; exact (fw_up_n n10).trans hR.x
      have h15 : f13 (α 0 0 5) = some (.inl (y 7, 40, .inr (.inr (.inr (.inr (fun e => if e < nt then some (α 7 e 0) else none)))))) := by rw [ef13]; exact (fw_up_n n11).trans hR.x5
      have h16 : f13 (α 1 ev 0) = some (.inr (1, [.int (κ 1 ev 0), .int (κ 1 ev 1)])) := by rw [ef13]; exact (fw_up_n n12).trans (hR.p hev)
      have h17 : f13 q9 = some (.inr (6, [.null, .int 0, .int 0])) := by rw [ef13]; exact fw_up_s
      refine lv_dup hx hb dX8_fill_53 rfl ?_
      refine lv_aload_n hx hb dX8_fill_54 rfl (lv_at hl 0 rfl) ?_
      refine lv_iload_n hx hb dX8_fill_55 rfl (lv_at hl 3 rfl) ?_
      refine fw_callIv hx hb hml hown hts hE hw [.ref (α 1 ev 0), .int p1] [.ref q9, .int (nI nt), .ref (α 0 0 5)] (c_X6_init l D A y sa f13 q9 (α 1 ev 0) p1 h17) (cwI 2 hts gX8_fill_X6_init rfl rfl rfl (hts (.initialized RX6) (by decide +kernel)) (hts (.methodLink RX8 152 yX6_init) (by decide +kernel)) (hts (.instanceMethod yX6_init) (by decide +kernel)) rfl (by decide +kernel) ⟨Nat.le_of_ble_eq_true rfl, Nat.le_of_ble_eq_true rfl⟩) rfl hl.1 rfl (Nat.le_of_ble_eq_true rfl) dX8_fill_56 ⟨Nat.le_of_ble_eq_true rfl, Nat.le_of_ble_eq_true rfl⟩ (fun f19 H locs hp20 hw => ?_)
      have ef19 := hp20
      have h21 : f19 (α 0 0 0) = some (.inr (8, [.ref (α 0 0 1), .ref (α 0 0 2), .ref (α 0 0 3), .ref (α 0 0 4), .ref (α 0 0 5), .int (nI nw), .int (nI no), .int (nI nt), .int (κ 0 0 0), .int (nI wk)])) := by rw [ef19, fw_up_n n10]; exact h14
      have h22 : f19 (α 0 0 5) = some (.inl (y 7, 40, .inr (.inr (.inr (.inr (fun e => if e < nt then some (α 7 e 0) else none)))))) := by rw [ef19, fw_up_n n11]; exact h15
      have h23 : f19 (α 1 ev 0) = some (.inr (1, [.int (κ 1 ev 0), .int (κ 1 ev 1)])) := by rw [ef19, fw_up_n n12]; exact h16
      have h24 : f19 q9 = some (.inr (6, [.ref (α 1 ev 0), .int p1, .int 0])) := by rw [ef19]; exact fw_up_s
      refine fw_aast (r := (RX6, TX6, 3)) hx hb hE.1.1 hw (g := (fun e => if e < nt then some (α 7 e 0) else none)) h22 7 rfl h24 rfl (vp_in_nI (by omega) (by decide)) dX8_fill_59 (fun H locs hw => ?_)
      rw [nI_clamp (n := nt) (by omega)] at hw
      obtain ⟨f25, ef25⟩ : ∃ z, z = fw_up f19 (α 0 0 5) (.inl (y 7, 40, .inr (.inr (.inr (.inr (va_up (fun e => if e < nt then some (α 7 e 0) else none) nt (some q9))))))) := ⟨_, rfl⟩
      have hw : fw_S D A s.heap f25 H locs := by rw [ef25]; exact hw
      have h26 : f25 (α 0 0 0) = some (.inr (8, [.ref (α 0 0 1), .ref (α 0 0 2), .ref (α 0 0 3), .ref (α 0 0 4), .ref (α 0 0 5), .int (nI nw), .int (nI no), .int (nI nt), .int (κ 0 0 0), .int (nI wk)])) := by rw [ef25]; exact (fw_up_n (fw_ne2 h21 h22 (by simp))).trans h21
      have h27 : f25 (α 1 ev 0) = some (.inr (1, [.int (κ 1 ev 0), .int (κ 1 ev 1)])) := by rw [ef25]; exact (fw_up_n (fw_ne2 h23 h22 (by simp))).trans h23
      have h28 : f25 q9 = some (.inr (6, [.ref (α 1 ev 0), .int p1, .int 0])) := by rw [ef25]; exact (fw_up_n (Ne.symm n11)).trans h24
      have h29 : f25 (α 0 0 5) = some (.inl (y 7, 40, .inr (.inr (.inr (.inr (va_up (fun e => if e < nt then some (α 7 e 0) else none) nt (some q9))))))) := by rw [ef25]; exact fw_up_s
      refine lv_aload_n hx hb dX8_fill_60 rfl (lv_at hl 0 rfl) ?_
      refine lv_iload_n hx hb dX8_fill_61 rfl (lv_at hl 3 rfl) ?_
      refine fw_callVv hx hb hml hown hts hE hw [.int p1] [] (c_X1_receive l D A y sa f25 (α 1 ev 0) (κ 1 ev 0) (κ 1 ev 1) p1 h27) (cwV 1 hts gX8_fill_X1_receive rfl rfl rfl (by decide +kernel) ⟨Nat.le_of_ble_eq_true rfl, Nat.le_of_ble_eq_true rfl⟩) (ci := 1) rfl rfl h27 rfl hl.1 rfl (Nat.le_of_ble_eq_true rfl) dX8_fill_62 ⟨Nat.le_of_ble_eq_true rfl, Nat.le_of_ble_eq_true rfl⟩ (fun f31 H locs hp32 hw => ?_)
      have ef31 := hp32
      have h33 : f31 (α 0 0 0) = some (.inr (8, [.ref (α 0 0 1), .ref (α 0 0 2), .ref (α 0 0 3), .ref (α 0 0 4), .ref (α 0 0 5), .int (nI nw), .int (nI no), .int (nI nt), .int (κ 0 0 0), .int (nI wk)])) := by rw [ef31, fw_up_n (fw_ne2 h26 h27 (by simp))]; exact h26
      have h34 : f31 q9 = some (.inr (6, [.ref (α 1 ev 0), .int p1, .int 0])) := by rw [ef31, fw_up_n (Ne.symm n12)]; exact h28
      have h35 : f31 (α 0 0 5) = some (.inl (y 7, 40, .inr (.inr (.inr (.inr (va_up (fun e => if e < nt then some (α 7 e 0) else none) nt (some q9))))))) := by rw [ef31, fw_up_n (fw_ne2 h29 h27 (by simp))]; exact h29
      have h36 : f31 (α 1 ev 0) = some (.inr (1, [.int (κ 1 ev 0 + (p1 - (if p1 < κ 1 ev 1 then p1 else κ 1 ev 1))), .int (κ 1 ev 1 - (if p1 < κ 1 ev 1 then p1 else κ 1 ev 1))])) := by rw [ef31]; exact fw_up_s
      refine lv_aload_n hx hb dX8_fill_65 rfl (lv_at hl 1 rfl) ?_
      refine lv_dup hx hb dX8_fill_66 rfl ?_
      refine fw_get hx hb hts hown hE.1.1 hw (ci := 8) (fs := [.ref (α 0 0 1), .ref (α 0 0 2), .ref (α 0 0 3), .ref (α 0 0 4), .ref (α 0 0 5), .int (nI nw), .int (nI no), .int (nI nt), .int (κ 0 0 0), .int (nI wk)]) (v := .int (nI nt)) h33 iX8_fill_8 rfl 7 (by decide) rfl (by decide +kernel) dX8_fill_67 ?_
      refine lv_dup_x1 hx hb dX8_fill_70 rfl rfl ?_
      refine lv_iconst (v := 1) hx hb dX8_fill_71 (by decide) ?_
      refine lv_iadd hx hb dX8_fill_72 ?_
      refine fw_put hx hb hts hown hE.1.1 hw (ci := 8) (fs := [.ref (α 0 0 1), .ref (α 0 0 2), .ref (α 0 0 3), .ref (α 0 0 4), .ref (α 0 0 5), .int (nI nw), .int (nI no), .int (nI nt), .int (κ 0 0 0), .int (nI wk)]) (v := .int ((nI nt) + 1)) h33 iX8_fill_8 tyX8 tyX8_ok nmX8 rfl 7 (by decide) rfl rfl rfl (Nat.le_of_ble_eq_true rfl) (by decide +kernel) dX8_fill_73 (fun H locs hw => ?_)
      obtain ⟨f37, ef37⟩ : ∃ z, z = fw_up f31 (α 0 0 0) (.inr (8, [.ref (α 0 0 1), .ref (α 0 0 2), .ref (α 0 0 3), .ref (α 0 0 4), .ref (α 0 0 5), .int (nI nw), .int (nI no), .int ((nI nt) + 1), .int (κ 0 0 0), .int (nI wk)])) := ⟨_, rfl⟩
      have hw : fw_S D A s.heap f37 H locs := by rw [ef37]; exact hw
      have h38 : f37 q9 = some (.inr (6, [.ref (α 1 ev 0), .int p1, .int 0])) := by rw [ef37]; exact (fw_up_n (Ne.symm n10)).trans h34
      have h39 : f37 (α 0 0 5) = some (.inl (y 7, 40, .inr (.inr (.inr (.inr (va_up (fun e => if e < nt then some (α 7 e 0) else none) nt (some q9))))))) := by rw [ef37]; exact (fw_up_n (fw_ne2 h35 h33 (by simp))).trans h35
      have h40 : f37 (α 1 ev 0) = some (.inr (1, [.int (κ 1 ev 0 + (p1 - (if p1 < κ 1 ev 1 then p1 else κ 1 ev 1))), .int (κ 1 ev 1 - (if p1 < κ 1 ev 1 then p1 else κ 1 ev 1))])) := by rw [ef37]; exact (fw_up_n (fw_ne2 h36 h33 (by simp))).trans h36
      have h41 : f37 (α 0 0 0) = some (.inr (8, [.ref (α 0 0 1), .ref (α 0 0 2), .ref (α 0 0 3), .ref (α 0 0 4), .ref (α 0 0 5), .int (nI nw), .int (nI no), .int ((nI nt) + 1), .int (κ 0 0 0), .int (nI wk)])) := by rw [ef37]; exact fw_up_s
      exact vx_ret (fw_iret hx hb hr hlocks hw (Nat.le_of_ble_eq_true rfl) (Nat.le_of_ble_eq_true rfl) dX8_fill_76 (⟨ev, _, hev, rfl, hin1, hroom, rfl, aUp_k (K := 7) (show 0 ≠ 7 by decide), by rw [ef37, ef31, ef25, ef19, ef13, fw_up_up, nI_1, fw_up_c (fw_ne2 (hR.p hev) hR.x (by simp))]; have z := (hR.newT (w := ev) (by omega) p1 hbq9).setP hev (κ 1 ev 0 + (p1 - (if p1 < κ 1 ev 1 then p1 else κ 1 ev 1))) (κ 1 ev 1 - (if p1 < κ 1 ev 1 then p1 else κ 1 ev 1)); rw [aUp_k (by decide)] at z; exact z⟩))
    · have hfull : nt = 40 := Nat.le_antisymm (by omega) (nI_gx (n := 40) c_8 (by omega) (by decide))
      exact fw_throw (ic := 65) (ik := 61) (is := 150) (cls := nISE) (text := "no more transfers") hx hb hfl hts hown hE hw htab hlocks thISE (fun w h => List.mem_cons_of_mem _ (List.mem_append_left _ (List.mem_append_left _ (List.mem_append_right _ h)))) (by decide +kernel) (by decide +kernel) (by decide +kernel) (hl.1.trans hml.symm) dX8_fill_32 dX8_fill_35 dX8_fill_36 dX8_fill_38 dX8_fill_41 (Nat.le_of_ble_eq_true rfl) (Nat.le_of_ble_eq_true rfl) (Nat.le_of_ble_eq_true rfl) (Nat.le_of_ble_eq_true rfl) (Or.inr (Or.inr ⟨rfl, inr_nI (n := 2) (by omega) (by decide), hin1, hfull⟩)) (Nat.le_of_ble_eq_true rfl) (Nat.le_of_ble_eq_true rfl)
