theorem iX9_dueFor_9 : ∀ w ∈ wsX90, w ∈ wsX9_dueFor := by decide +kernel
set_option maxHeartbeats 4000000 in
set_option maxRecDepth 100000 in
/-- the reference: dueFor -/
theorem c_X9_dueFor (l : Launch) (D : va_G) (A : Nat → Prop) (y : Nat → ClassId) (sa : Nat → Nat) (f : fw_F) (β : Nat → Nat) (μ : mS) (nw wk no nt : Nat) (hI : Im μ nw wk no nt) (w k : Nat) (hw8 : w < 8) (hk31 : k < 31) (hR : Rm y μ β f) : Met l yX9_dueFor wsX9_dueFor ({ frames := 1, cells := 0, slots := 0, locals := 23 } : Room) (cPc D A y sa f [.ref (β 0), .int (nI w), .int (nI k)]) (cQi D A (fun r f1 => r = duM μ w k ∧ f1 = f)) 0 0 A := by
  refine fw_met (by decide) rfl [.ref (β 0), .int (nI w), .int (nI k)] (Nat.le_of_ble_eq_true rfl) ?_
  intro p e s m args below meth c ls I hin hE hw hl
  obtain ⟨hx, hb, hr, hts, hown, hlocks, hml⟩ := I
  have hown : s.vm.findClass RX9 = some m.cls := hown
  have hl : lv_has ls 8 [(0, .ref (β 0)), (1, .int (nI w)), (2, .int (nI k))] := hl
  obtain ⟨hI1, hI2, hI3, hI4, hI5, hI6, hI7, hI8, hI9, hI10, hI11, hI12, hI13⟩ := id hI
  refine lv_aload_n hx hb dX9_dueFor_0 rfl (lv_at hl 0 rfl) ?_
  refine fw_get hx hb hts hown hE.1.1 hw (ci := 9) (fs := [.int (μ 0 0), .int (μ 1 0), .int (μ 2 0), .ref (β 3), .ref (β 4), .ref (β 5), .ref (β 6), .ref (β 7), .ref (β 8), .ref (β 9), .ref (β 10), .ref (β 11), .ref (β 12), .int (μ 13 0), .ref (β 14), .ref (β 15), .ref (β 16), .ref (β 17), .int (μ 18 0), .ref (β 19), .ref (β 20), .int (μ 21 0), .ref (β 22), .ref (β 23), .ref (β 24)]) (v := .ref (β 4)) hR.o iX9_dueFor_9 rfl 4 (by decide) rfl (by decide +kernel) dX9_dueFor_1 ?_
  refine lv_aload_n hx hb dX9_dueFor_4 rfl (lv_at hl 0 rfl) ?_
  refine fw_get hx hb hts hown hE.1.1 hw (ci := 9) (fs := [.int (μ 0 0), .int (μ 1 0), .int (μ 2 0), .ref (β 3), .ref (β 4), .ref (β 5), .ref (β 6), .ref (β 7), .ref (β 8), .ref (β 9), .ref (β 10), .ref (β 11), .ref (β 12), .int (μ 13 0), .ref (β 14), .ref (β 15), .ref (β 16), .ref (β 17), .int (μ 18 0), .ref (β 19), .ref (β 20), .int (μ 21 0), .ref (β 22), .ref (β 23), .ref (β 24)]) (v := .ref (β 4)) hR.o iX9_dueFor_9 rfl 4 (by decide) rfl (by decide +kernel) dX9_dueFor_5 ?_
  refine lv_iload_n hx hb dX9_dueFor_8 rfl (lv_at hl 1 rfl) ?_
  refine lv_iload_n hx hb dX9_dueFor_9 rfl (lv_at hl 2 rfl) ?_
  refine fw_callSi hx hb hml hown hts hE hw [.ref (β 4), .int (nI w), .int (nI k)] [.ref (β 4)] (c_X9_told l D A y sa f (β 4) 248 w k (μ 4) hR.a4 (by omega) (by omega) (hI9 w (by omega))) (va_cwS 3 hts gX9_dueFor_X9_told rfl rfl rfl (by decide +kernel) ⟨Nat.le_of_ble_eq_true rfl, Nat.le_of_ble_eq_true rfl⟩) rfl hl.1 rfl (Nat.le_of_ble_eq_true rfl) dX9_dueFor_10 ⟨Nat.le_of_ble_eq_true rfl, Nat.le_of_ble_eq_true rfl⟩ (fun r1 f2 H locs hp3 hw => ?_)
  obtain ⟨hp3a, hp3b⟩ := hp3
  rw [hp3b] at hw
  rw [hp3a]
  have ht4 := tld_le (μ 4) (31 * w + k)
  refine fw_iald hx hb hE.1.1 hw (g := (μ 4)) hR.a4 0 rfl (vp_in_nI (by omega) (by decide)) dX9_dueFor_13 ?_
  rw [nI_clamp (n := (tld (μ 4) (31 * w + k))) (by omega)]
  obtain ⟨rk, hrk, erk⟩ : ∃ rk, rk < 3 ∧ μ 4 (tld (μ 4) (31 * w + k)) = nI rk := by
    rcases hI10 (tld (μ 4) (31 * w + k)) (by omega) with q | q
    · exact absurd q (tld_ne (hI9 w (by omega)) _ (by omega))
    · exact q
  rw [erk]
  refine lv_istore_n (lv' := [(3, .int (nI rk)), (0, .ref (β 0)), (1, .int (nI w)), (2, .int (nI k))]) hx hb dX9_dueFor_14 rfl hl (by decide) rfl (fun ls hl => ?_)
  refine lv_aload_n hx hb dX9_dueFor_15 rfl (lv_at hl 1 rfl) ?_
  refine fw_get hx hb hts hown hE.1.1 hw (ci := 9) (fs := [.int (μ 0 0), .int (μ 1 0), .int (μ 2 0), .ref (β 3), .ref (β 4), .ref (β 5), .ref (β 6), .ref (β 7), .ref (β 8), .ref (β 9), .ref (β 10), .ref (β 11), .ref (β 12), .int (μ 13 0), .ref (β 14), .ref (β 15), .ref (β 16), .ref (β 17), .int (μ 18 0), .ref (β 19), .ref (β 20), .int (μ 21 0), .ref (β 22), .ref (β 23), .ref (β 24)]) (v := .ref (β 5)) hR.o iX9_dueFor_9 rfl 5 (by decide) rfl (by decide +kernel) dX9_dueFor_16 ?_
  refine lv_iload_n hx hb dX9_dueFor_19 rfl (lv_at hl 0 rfl) ?_
  refine lv_iload_n hx hb dX9_dueFor_20 rfl (lv_at hl 3 rfl) ?_
  refine fw_callSi hx hb hml hown hts hE hw [.ref (β 5), .int (nI rk), .int (nI k)] [] (c_X9_told l D A y sa f (β 5) 93 rk k (μ 5) hR.a5 (by omega) (by omega) (hI11 rk hrk)) (va_cwS 3 hts gX9_dueFor_X9_told rfl rfl rfl (by decide +kernel) ⟨Nat.le_of_ble_eq_true rfl, Nat.le_of_ble_eq_true rfl⟩) rfl hl.1 rfl (Nat.le_of_ble_eq_true rfl) dX9_dueFor_21 ⟨Nat.le_of_ble_eq_true rfl, Nat.le_of_ble_eq_true rfl⟩ (fun r4 f5 H locs hp6 hw => ?_)
  obtain ⟨hp6a, hp6b⟩ := hp6
  rw [hp6b] at hw
  rw [hp6a]
  have ht5 := tld_le (μ 5) (31 * rk + k)
  refine lv_istore (lv' := [(4, .int (nI (tld (μ 5) (31 * rk + k)))), (3, .int (nI rk)), (0, .ref (β 0)), (1, .int (nI w)), (2, .int (nI k))]) hx hb dX9_dueFor_24 hl (by decide) rfl (fun ls hl => ?_)
  refine lv_iconst (v := 0) hx hb dX9_dueFor_26 (by decide) ?_
  refine lv_istore (lv' := [(5, .int 0), (4, .int (nI (tld (μ 5) (31 * rk + k)))), (3, .int (nI rk)), (0, .ref (β 0)), (1, .int (nI w)), (2, .int (nI k))]) hx hb dX9_dueFor_27 hl (by decide) rfl (fun ls hl => ?_)
  refine lv_iconst (v := 0) hx hb dX9_dueFor_29 (by decide) ?_
  refine lv_istore (lv' := [(6, .int 0), (5, .int 0), (4, .int (nI (tld (μ 5) (31 * rk + k)))), (3, .int (nI rk)), (0, .ref (β 0)), (1, .int (nI w)), (2, .int (nI k))]) hx hb dX9_dueFor_30 hl (by decide) rfl (fun ls hl => ?_)
  refine fw_loop 32 8 (fun r : Nat => 20 - r) (fun r => r ≤ cnM μ w) (fun r => f) (fun r => [(6, .int (nI r)), (5, .int (dsM μ w k (tld (μ 5) (31 * rk + k)) r)), (4, .int (nI (tld (μ 5) (31 * rk + k)))), (0, .ref (β 0)), (1, .int (nI w)), (2, .int (nI k))]) (fun r => []) (fun r => 0) (fun r => 0) (fun i H locs ls hP hw hl IH => ?_) 0 H locs ls (Nat.zero_le _) hw (lv_sub hl [0, 1, 2, 4, 5, 6] rfl)
  try dsimp only at hP
  try dsimp only at hw
  try dsimp only at hl
  try dsimp only at IH
  try dsimp only at ⊢
  have hcl := cnM_le μ w
  refine lv_iload hx hb dX9_dueFor_32 (lv_at hl 0 rfl) ?_
  refine lv_aload_n hx hb dX9_dueFor_34 rfl (lv_at hl 3 rfl) ?_
  refine lv_iload_n hx hb dX9_dueFor_35 rfl (lv_at hl 4 rfl) ?_
  refine fw_callVi hx hb hml hown hts hE hw [.int (nI w)] [.int (nI i)] (c_X9_counting l D A y sa f β μ w (by omega) hR) (cwV 1 hts gX9_dueFor_X9_counting rfl rfl rfl (by decide +kernel) ⟨Nat.le_of_ble_eq_true rfl, Nat.le_of_ble_eq_true rfl⟩) (ci := 9) rfl rfl hR.o rfl hl.1 rfl (Nat.le_of_ble_eq_true rfl) dX9_dueFor_36 ⟨Nat.le_of_ble_eq_true rfl, Nat.le_of_ble_eq_true rfl⟩ (fun r7 f8 H locs hp9 hw => ?_)
  obtain ⟨hp9a, hp9b⟩ := hp9
  rw [hp9b] at hw
  rw [hp9a]
  refine lv_icmp_ge (tgt := 108) hx hb dX9_dueFor_39 (by decide) (fun c_10 => ?_) (fun c_10 => ?_)
  · refine lv_iload hx hb dX9_dueFor_108 (lv_at hl 1 rfl) ?_
    exact fw_iret hx hb hr hlocks hw (Nat.le_of_ble_eq_true rfl) (Nat.le_of_ble_eq_true rfl) dX9_dueFor_110 (⟨by have q := nI_eqn c_10 hP (by omega); rw [q]; unfold duM rkM; rw [erk, nI_clamp (n := rk) (by omega)], rfl⟩)
  · have hic : i < cnM μ w := nI_hi c_10 (by omega)
    refine lv_bipush (v := 20) hx hb dX9_dueFor_42 (by decide) ?_
    refine lv_iload_n hx hb dX9_dueFor_44 rfl (lv_at hl 4 rfl) ?_
    refine lv_imul hx hb dX9_dueFor_45 ?_
    rw [show ((20 * (nI w)) : Int32) = (nI (20 * w)) from nI_mul (20) (w)]
    refine lv_iload hx hb dX9_dueFor_46 (lv_at hl 0 rfl) ?_
    refine lv_iadd hx hb dX9_dueFor_48 ?_
    rw [show (((nI (20 * w)) + (nI i)) : Int32) = (nI (((20 * w)) + i)) from nI_add ((20 * w)) (i)]
    refine lv_istore (lv' := [(7, .int (nI (((20 * w)) + i))), (6, .int (nI i)), (5, .int (dsM μ w k (tld (μ 5) (31 * rk + k)) i)), (4, .int (nI (tld (μ 5) (31 * rk + k)))), (0, .ref (β 0)), (1, .int (nI w)), (2, .int (nI k))]) hx hb dX9_dueFor_49 hl (by decide) rfl (fun ls hl => ?_)
    refine lv_iload hx hb dX9_dueFor_51 (lv_at hl 2 rfl) ?_
    refine lv_aload_n hx hb dX9_dueFor_53 rfl (lv_at hl 4 rfl) ?_
    refine fw_get hx hb hts hown hE.1.1 hw (ci := 9) (fs := [.int (μ 0 0), .int (μ 1 0), .int (μ 2 0), .ref (β 3), .ref (β 4), .ref (β 5), .ref (β 6), .ref (β 7), .ref (β 8), .ref (β 9), .ref (β 10), .ref (β 11), .ref (β 12), .int (μ 13 0), .ref (β 14), .ref (β 15), .ref (β 16), .ref (β 17), .int (μ 18 0), .ref (β 19), .ref (β 20), .int (μ 21 0), .ref (β 22), .ref (β 23), .ref (β 24)]) (v := .ref (β 7)) hR.o iX9_dueFor_9 rfl 7 (by decide) rfl (by decide +kernel) dX9_dueFor_54 ?_
    refine lv_iload hx hb dX9_dueFor_57 (lv_at hl 0 rfl) ?_
    refine fw_iald hx hb hE.1.1 hw (g := (μ 7)) hR.a7 0 rfl (vp_in_nI (by omega) (by decide)) dX9_dueFor_59 ?_
    rw [nI_clamp (n := (((20 * w)) + i)) (by omega)]
    refine lv_iload_n hx hb dX9_dueFor_60 rfl (lv_at hl 6 rfl) ?_
    refine lv_icmp_ne (tgt := 98) hx hb dX9_dueFor_61 (by decide) (fun c_11 => ?_) (fun c_11 => ?_)
    · refine lv_iconst (v := 0) hx hb dX9_dueFor_98 (by decide) ?_
      refine lv_iadd hx hb dX9_dueFor_99 ?_
      refine lv_istore (lv' := [(5, .int ((dsM μ w k (tld (μ 5) (31 * rk + k)) i) + 0)), (7, .int (nI (((20 * w)) + i))), (6, .int (nI i)), (4, .int (nI (tld (μ 5) (31 * rk + k)))), (0, .ref (β 0)), (1, .int (nI w)), (2, .int (nI k))]) hx hb dX9_dueFor_100 hl (by decide) rfl (fun ls hl => ?_)
      refine lv_iinc (v := (nI (i + 1))) (lv' := [(6, .int (nI (i + 1))), (5, .int ((dsM μ w k (tld (μ 5) (31 * rk + k)) i) + 0)), (7, .int (nI (((20 * w)) + i))), (4, .int (nI (tld (μ 5) (31 * rk + k)))), (0, .ref (β 0)), (1, .int (nI w)), (2, .int (nI k))]) hx hb dX9_dueFor_102 hl (k := 2) rfl (nI_1 (i)) (by decide) rfl (fun ls hl => ?_)
      refine lv_goto (tgt := 32) hx hb dX9_dueFor_105 (by decide) ?_
      have hds : ((dsM μ w k (tld (μ 5) (31 * rk + k)) i) + 0) = dsM μ w k (tld (μ 5) (31 * rk + k)) (i + 1) := by show _ = dsM μ w k (tld (μ 5) (31 * rk + k)) i + (if μ 7 (20 * w + i) = nI k then μ 8 (20 * w + i) * μ 5 (tld (μ 5) (31 * rk + k)) + μ 9 (20 * w + i) * μ 6 (tld (μ 5) (31 * rk + k)) else 0); rw [if_neg c_11]
      rw [hds] at hl
      exact IH (i + 1) _ _ _ (by omega) (by omega) hw (lv_sub hl [0, 1, 3, 4, 5, 6] rfl)
    · refine lv_aload_n hx hb dX9_dueFor_64 rfl (lv_at hl 4 rfl) ?_
      refine fw_get hx hb hts hown hE.1.1 hw (ci := 9) (fs := [.int (μ 0 0), .int (μ 1 0), .int (μ 2 0), .ref (β 3), .ref (β 4), .ref (β 5), .ref (β 6), .ref (β 7), .ref (β 8), .ref (β 9), .ref (β 10), .ref (β 11), .ref (β 12), .int (μ 13 0), .ref (β 14), .ref (β 15), .ref (β 16), .ref (β 17), .int (μ 18 0), .ref (β 19), .ref (β 20), .int (μ 21 0), .ref (β 22), .ref (β 23), .ref (β 24)]) (v := .ref (β 8)) hR.o iX9_dueFor_9 rfl 8 (by decide) rfl (by decide +kernel) dX9_dueFor_65 ?_
      refine lv_iload hx hb dX9_dueFor_68 (lv_at hl 0 rfl) ?_
      refine fw_iald hx hb hE.1.1 hw (g := (μ 8)) hR.a8 0 rfl (vp_in_nI (by omega) (by decide)) dX9_dueFor_70 ?_
      rw [nI_clamp (n := (((20 * w)) + i)) (by omega)]
      refine lv_aload_n hx hb dX9_dueFor_71 rfl (lv_at hl 4 rfl) ?_
      refine fw_get hx hb hts hown hE.1.1 hw (ci := 9) (fs := [.int (μ 0 0), .int (μ 1 0), .int (μ 2 0), .ref (β 3), .ref (β 4), .ref (β 5), .ref (β 6), .ref (β 7), .ref (β 8), .ref (β 9), .ref (β 10), .ref (β 11), .ref (β 12), .int (μ 13 0), .ref (β 14), .ref (β 15), .ref (β 16), .ref (β 17), .int (μ 18 0), .ref (β 19), .ref (β 20), .int (μ 21 0), .ref (β 22), .ref (β 23), .ref (β 24)]) (v := .ref (β 5)) hR.o iX9_dueFor_9 rfl 5 (by decide) rfl (by decide +kernel) dX9_dueFor_72 ?_
      refine lv_iload hx hb dX9_dueFor_75 (lv_at hl 3 rfl) ?_
      refine fw_iald hx hb hE.1.1 hw (g := (μ 5)) hR.a5 0 rfl (vp_in_nI (by omega) (by decide)) dX9_dueFor_77 ?_
      rw [nI_clamp (n := (tld (μ 5) (31 * rk + k))) (by omega)]
      refine lv_imul hx hb dX9_dueFor_78 ?_
      refine lv_aload_n hx hb dX9_dueFor_79 rfl (lv_at hl 4 rfl) ?_
      refine fw_get hx hb hts hown hE.1.1 hw (ci := 9) (fs := [.int (μ 0 0), .int (μ 1 0), .int (μ 2 0), .ref (β 3), .ref (β 4), .ref (β 5), .ref (β 6), .ref (β 7), .ref (β 8), .ref (β 9), .ref (β 10), .ref (β 11), .ref (β 12), .int (μ 13 0), .ref (β 14), .ref (β 15), .ref (β 16), .ref (β 17), .int (μ 18 0), .ref (β 19), .ref (β 20), .int (μ 21 0), .ref (β 22), .ref (β 23), .ref (β 24)]) (v := .ref (β 9)) hR.o iX9_dueFor_9 rfl 9 (by decide) rfl (by decide +kernel) dX9_dueFor_80 ?_
      refine lv_iload hx hb dX9_dueFor_83 (lv_at hl 0 rfl) ?_
      refine fw_iald hx hb hE.1.1 hw (g := (μ 9)) hR.a9 0 rfl (vp_in_nI (by omega) (by decide)) dX9_dueFor_85 ?_
      rw [nI_clamp (n := (((20 * w)) + i)) (by omega)]
      refine lv_aload_n hx hb dX9_dueFor_86 rfl (lv_at hl 4 rfl) ?_
      refine fw_get hx hb hts hown hE.1.1 hw (ci := 9) (fs := [.int (μ 0 0), .int (μ 1 0), .int (μ 2 0), .ref (β 3), .ref (β 4), .ref (β 5), .ref (β 6), .ref (β 7), .ref (β 8), .ref (β 9), .ref (β 10), .ref (β 11), .ref (β 12), .int (μ 13 0), .ref (β 14), .ref (β 15), .ref (β 16), .ref (β 17), .int (μ 18 0), .ref (β 19), .ref (β 20), .int (μ 21 0), .ref (β 22), .ref (β 23), .ref (β 24)]) (v := .ref (β 6)) hR.o iX9_dueFor_9 rfl 6 (by decide) rfl (by decide +kernel) dX9_dueFor_87 ?_
      refine lv_iload hx hb dX9_dueFor_90 (lv_at hl 3 rfl) ?_
      refine fw_iald hx hb hE.1.1 hw (g := (μ 6)) hR.a6 0 rfl (vp_in_nI (by omega) (by decide)) dX9_dueFor_92 ?_
      rw [nI_clamp (n := (tld (μ 5) (31 * rk + k))) (by omega)]
      refine lv_imul hx hb dX9_dueFor_93 ?_
      refine lv_iadd hx hb dX9_dueFor_94 ?_
      refine lv_goto (tgt := 99) hx hb dX9_dueFor_95 (by decide) ?_
      refine lv_iadd hx hb dX9_dueFor_99 ?_
      refine lv_istore (lv' := [(5, .int ((dsM μ w k (tld (μ 5) (31 * rk + k)) i) + ((((μ 8) (((20 * w)) + i)) * ((μ 5) (tld (μ 5) (31 * rk + k)))) + (((μ 9) (((20 * w)) + i)) * ((μ 6) (tld (μ 5) (31 * rk + k))))))), (7, .int (nI (((20 * w)) + i))), (6, .int (nI i)), (4, .int (nI (tld (μ 5) (31 * rk + k)))), (0, .ref (β 0)), (1, .int (nI w)), (2, .int (nI k))]) hx hb dX9_dueFor_100 hl (by decide) rfl (fun ls hl => ?_)
      refine lv_iinc (v := (nI (i + 1))) (lv' := [(6, .int (nI (i + 1))), (5, .int ((dsM μ w k (tld (μ 5) (31 * rk + k)) i) + ((((μ 8) (((20 * w)) + i)) * ((μ 5) (tld (μ 5) (31 * rk + k)))) + (((μ 9) (((20 * w)) + i)) * ((μ 6) (tld (μ 5) (31 * rk + k))))))), (7, .int (nI (((20 * w)) + i))), (4, .int (nI (tld (μ 5) (31 * rk + k)))), (0, .ref (β 0)), (1, .int (nI w)), (2, .int (nI k))]) hx hb dX9_dueFor_102 hl (k := 2) rfl (nI_1 (i)) (by decide) rfl (fun ls hl => ?_)
      refine lv_goto (tgt := 32) hx hb dX9_dueFor_105 (by decide) ?_
      have hds : ((dsM μ w k (tld (μ 5) (31 * rk + k)) i) + ((((μ 8) (((20 * w)) + i)) * ((μ 5) (tld (μ 5) (31 * rk + k)))) + (((μ 9) (((20 * w)) + i)) * ((μ 6) (tld (μ 5) (31 * rk + k)))))) = dsM μ w k (tld (μ 5) (31 * rk + k)) (i + 1) := by show _ = dsM μ w k (tld (μ 5) (31 * rk + k)) i + (if μ 7 (20 * w + i) = nI k then μ 8 (20 * w + i) * μ 5 (tld (μ 5) (31 * rk + k)) + μ 9 (20 * w + i) * μ 6 (tld (μ 5) (31 * rk + k)) else 0); rw [if_pos c_11]
      rw [hds] at hl
      exact IH (i + 1) _ _ _ (by omega) (by omega) hw (lv_sub hl [0, 1, 3, 4, 5, 6] rfl)

theorem iX9_claimOf_9 : ∀ w ∈ wsX90, w ∈ wsX9_claimOf := by decide +kernel
set_option maxHeartbeats 4000000 in
set_option maxRecDepth 100000 in
/-- the reference: claimOf -/
theorem c_X9_claimOf (l : Launch) (D : va_G) (A : Nat → Prop) (y : Nat → ClassId) (sa : Nat → Nat) (f : fw_F) (β : Nat → Nat) (μ : mS) (nw wk no nt : Nat) (hI : Im μ nw wk no nt) (w : Nat) (hw8 : w < 8) (hR : Rm y μ β f) : Met l yX9_claimOf wsX9_claimOf ({ frames := 2, cells := 0, slots := 0, locals := 50 } : Room) (cPc D A y sa f [.ref (β 0), .int (nI w)]) (cQi D A (fun r f1 => r = clM μ w ∧ f1 = f)) 0 0 A := by
  refine fw_met (by decide) rfl [.ref (β 0), .int (nI w)] (Nat.le_of_ble_eq_true rfl) ?_
  intro p e s m args below meth c ls I hin hE hw hl
  obtain ⟨hx, hb, hr, hts, hown, hlocks, hml⟩ := I
  have hown : s.vm.findClass RX9 = some m.cls := hown
  have hl : lv_has ls 4 [(0, .ref (β 0)), (1, .int (nI w))] := hl
  obtain ⟨hI1, hI2, hI3, hI4, hI5, hI6, hI7, hI8, hI9, hI10, hI11, hI12, hI13⟩ := id hI
  refine lv_iconst (v := 0) hx hb dX9_claimOf_0 (by decide) ?_
  refine lv_istore_n (lv' := [(2, .int 0), (0, .ref (β 0)), (1, .int (nI w))]) hx hb dX9_claimOf_1 rfl hl (by decide) rfl (fun ls hl => ?_)
  refine lv_iconst (v := 0) hx hb dX9_claimOf_2 (by decide) ?_
  refine lv_istore_n (lv' := [(3, .int 0), (2, .int 0), (0, .ref (β 0)), (1, .int (nI w))]) hx hb dX9_claimOf_3 rfl hl (by decide) rfl (fun ls hl => ?_)
  refine fw_loop 4 4 (fun r : Nat => 31 - r) (fun r => r ≤ wk + 1 ∧ r ≤ 31) (fun r => f) (fun r => [(3, .int (nI r)), (2, .int (csM μ w r)), (0, .ref (β 0)), (1, .int (nI w))]) (fun r => []) (fun r => 0) (fun r => 0) (fun i H locs ls hP hw hl IH => ?_) 0 s.heap [] ls ⟨by omega, by omega⟩ hw (lv_sub hl [0, 1, 2, 3] rfl)
  obtain ⟨hP1, hP2⟩ := hP
  skip
  try dsimp only at hw
  try dsimp only at hl
  try dsimp only at IH
  try dsimp only at ⊢
  refine lv_iload_n hx hb dX9_claimOf_4 rfl (lv_at hl 0 rfl) ?_
  refine lv_aload_n hx hb dX9_claimOf_5 rfl (lv_at hl 2 rfl) ?_
  refine fw_get hx hb hts hown hE.1.1 hw (ci := 9) (fs := [.int (μ 0 0), .int (μ 1 0), .int (μ 2 0), .ref (β 3), .ref (β 4), .ref (β 5), .ref (β 6), .ref (β 7), .ref (β 8), .ref (β 9), .ref (β 10), .ref (β 11), .ref (β 12), .int (μ 13 0), .ref (β 14), .ref (β 15), .ref (β 16), .ref (β 17), .int (μ 18 0), .ref (β 19), .ref (β 20), .int (μ 21 0), .ref (β 22), .ref (β 23), .ref (β 24)]) (v := .int (μ 1 0)) hR.o iX9_claimOf_9 rfl 1 (by decide) rfl (by decide +kernel) dX9_claimOf_6 ?_
  rw [hI3]
  refine lv_icmp_gt (tgt := 33) hx hb dX9_claimOf_9 (by decide) (fun c_1 => ?_) (fun c_1 => ?_)
  · have hiw : i = wk + 1 := by have q := (nI_ltI (by omega) (by omega)).mp c_1; omega
    refine lv_iload_n hx hb dX9_claimOf_33 rfl (lv_at hl 1 rfl) ?_
    refine lv_aload_n hx hb dX9_claimOf_34 rfl (lv_at hl 2 rfl) ?_
    refine fw_get hx hb hts hown hE.1.1 hw (ci := 9) (fs := [.int (μ 0 0), .int (μ 1 0), .int (μ 2 0), .ref (β 3), .ref (β 4), .ref (β 5), .ref (β 6), .ref (β 7), .ref (β 8), .ref (β 9), .ref (β 10), .ref (β 11), .ref (β 12), .int (μ 13 0), .ref (β 14), .ref (β 15), .ref (β 16), .ref (β 17), .int (μ 18 0), .ref (β 19), .ref (β 20), .int (μ 21 0), .ref (β 22), .ref (β 23), .ref (β 24)]) (v := .ref (β 10)) hR.o iX9_claimOf_9 rfl 10 (by decide) rfl (by decide +kernel) dX9_claimOf_35 ?_
    refine lv_iload_n hx hb dX9_claimOf_38 rfl (lv_at hl 3 rfl) ?_
    refine fw_iald hx hb hE.1.1 hw (g := (μ 10)) hR.a10 0 rfl (vp_in_nI (by omega) (by decide)) dX9_claimOf_39 ?_
    rw [nI_clamp (n := w) (by omega)]
    refine lv_isub hx hb dX9_claimOf_40 ?_
    exact fw_iret hx hb hr hlocks hw (Nat.le_of_ble_eq_true rfl) (Nat.le_of_ble_eq_true rfl) dX9_claimOf_41 (⟨by unfold clM; rw [hI3, nI_clamp (n := wk) (by omega), show min (wk + 1) 31 = i by omega], rfl⟩)
  · have hiw : i ≤ wk := Nat.not_lt.mp (fun q => c_1 (nI_lt q (by omega)))
    refine lv_iload_n hx hb dX9_claimOf_12 rfl (lv_at hl 0 rfl) ?_
    refine lv_bipush (v := 31) hx hb dX9_claimOf_13 (by decide) ?_
    refine lv_icmp_ge (tgt := 33) hx hb dX9_claimOf_15 (by decide) (fun c_2 => ?_) (fun c_2 => ?_)
    · have hi31 : i = 31 := nI_eqn (n := 31) c_2 hP2 (by decide)
      refine lv_iload_n hx hb dX9_claimOf_33 rfl (lv_at hl 1 rfl) ?_
      refine lv_aload_n hx hb dX9_claimOf_34 rfl (lv_at hl 2 rfl) ?_
      refine fw_get hx hb hts hown hE.1.1 hw (ci := 9) (fs := [.int (μ 0 0), .int (μ 1 0), .int (μ 2 0), .ref (β 3), .ref (β 4), .ref (β 5), .ref (β 6), .ref (β 7), .ref (β 8), .ref (β 9), .ref (β 10), .ref (β 11), .ref (β 12), .int (μ 13 0), .ref (β 14), .ref (β 15), .ref (β 16), .ref (β 17), .int (μ 18 0), .ref (β 19), .ref (β 20), .int (μ 21 0), .ref (β 22), .ref (β 23), .ref (β 24)]) (v := .ref (β 10)) hR.o iX9_claimOf_9 rfl 10 (by decide) rfl (by decide +kernel) dX9_claimOf_35 ?_
      refine lv_iload_n hx hb dX9_claimOf_38 rfl (lv_at hl 3 rfl) ?_
      refine fw_iald hx hb hE.1.1 hw (g := (μ 10)) hR.a10 0 rfl (vp_in_nI (by omega) (by decide)) dX9_claimOf_39 ?_
      rw [nI_clamp (n := w) (by omega)]
      refine lv_isub hx hb dX9_claimOf_40 ?_
      exact fw_iret hx hb hr hlocks hw (Nat.le_of_ble_eq_true rfl) (Nat.le_of_ble_eq_true rfl) dX9_claimOf_41 (⟨by unfold clM; rw [hI3, nI_clamp (n := wk) (by omega), show min (wk + 1) 31 = i by omega], rfl⟩)
    · have hi31 : i < 31 := nI_hi (n := 31) c_2 (by omega)
      refine lv_iload_n hx hb dX9_claimOf_18 rfl (lv_at hl 1 rfl) ?_
      refine lv_aload_n hx hb dX9_claimOf_19 rfl (lv_at hl 2 rfl) ?_
      refine lv_iload_n hx hb dX9_claimOf_20 rfl (lv_at hl 3 rfl) ?_
      refine lv_iload_n hx hb dX9_claimOf_21 rfl (lv_at hl 0 rfl) ?_
      refine fw_callVi hx hb hml hown hts hE hw [.int (nI w), .int (nI i)] [.int (csM μ w i)] (c_X9_dueFor l D A y sa f β μ nw wk no nt hI w i (by omega) (by omega) hR) (cwV 2 hts gX9_claimOf_X9_dueFor rfl rfl rfl (by decide +kernel) ⟨Nat.le_of_ble_eq_true rfl, Nat.le_of_ble_eq_true rfl⟩) (ci := 9) rfl rfl hR.o rfl hl.1 rfl (Nat.le_of_ble_eq_true rfl) dX9_claimOf_22 ⟨Nat.le_of_ble_eq_true rfl, Nat.le_of_ble_eq_true rfl⟩ (fun r3 f4 H locs hp5 hw => ?_)
      obtain ⟨hp5a, hp5b⟩ := hp5
      rw [hp5b] at hw
      rw [hp5a]
      refine lv_iadd hx hb dX9_claimOf_25 ?_
      refine lv_istore_n (lv' := [(2, .int ((csM μ w i) + (duM μ w i))), (3, .int (nI i)), (0, .ref (β 0)), (1, .int (nI w))]) hx hb dX9_claimOf_26 rfl hl (by decide) rfl (fun ls hl => ?_)
      refine lv_iinc (v := (nI (i + 1))) (lv' := [(3, .int (nI (i + 1))), (2, .int ((csM μ w i) + (duM μ w i))), (0, .ref (β 0)), (1, .int (nI w))]) hx hb dX9_claimOf_27 hl (k := 1) rfl (nI_1 (i)) (by decide) rfl (fun ls hl => ?_)
      refine lv_goto (tgt := 4) hx hb dX9_claimOf_30 (by decide) ?_
      exact IH (i + 1) _ _ _ (by omega) ⟨by omega, by omega⟩ hw (lv_sub hl [0, 1, 2, 3] rfl)

set_option maxHeartbeats 4000000 in
set_option maxRecDepth 100000 in
/-- the reference: acknowledged -/
theorem c_X9_acknowledged (l : Launch) (D : va_G) (A : Nat → Prop) (y : Nat → ClassId) (sa : Nat → Nat) (f : fw_F) (β : Nat → Nat) (μ : mS) (p0 : Int32) (nw wk no nt : Nat) (hI : Im μ nw wk no nt) (hR : Rm y μ β f) : Met l yX9_acknowledged wsX9_acknowledged ({ frames := 2, cells := 0, slots := 0, locals := 43 } : Room) (cPc D A y sa f [.ref (β 0), .int p0]) (cQi D A (fun r f1 => (¬ inr p0 0 (nI nw - 1) ∧ r = 0 ∧ Rm y (up2 μ 0 0 1) β f1) ∨ (∃ wv, wv < nw ∧ p0 = nI wv ∧ r = nI (cnM (up2 μ 0 0 0) wv) ∧ Rm y (up2 μ 0 0 0) β f1))) 0 0 A := by
  refine fw_met (by decide) rfl [.ref (β 0), .int p0] (Nat.le_of_ble_eq_true rfl) ?_
  intro p e s m args below meth c ls I hin hE hw hl
  obtain ⟨hx, hb, hr, hts, hown, hlocks, hml⟩ := I
  have hown : s.vm.findClass RX9 = some m.cls := hown
  have hl : lv_has ls 2 [(0, .ref (β 0)), (1, .int p0)] := hl
  obtain ⟨hI1, hI2, hI3, hI4, hI5, hI6, hI7, hI8, hI9, hI10, hI11, hI12, hI13⟩ := id hI
  refine lv_aload_n hx hb dX9_acknowledged_0 rfl (lv_at hl 0 rfl) ?_
  refine lv_aload_n hx hb dX9_acknowledged_1 rfl (lv_at hl 0 rfl) ?_
  refine lv_iload_n hx hb dX9_acknowledged_2 rfl (lv_at hl 1 rfl) ?_
  refine fw_callVi hx hb hml hown hts hE hw [.int p0] [.ref (β 0)] (c_X9_isWorker l D A y sa f β μ p0 hR) (cwV 1 hts gX9_acknowledged_X9_isWorker rfl rfl rfl (by decide +kernel) ⟨Nat.le_of_ble_eq_true rfl, Nat.le_of_ble_eq_true rfl⟩) (ci := 9) rfl rfl hR.o rfl hl.1 rfl (Nat.le_of_ble_eq_true rfl) dX9_acknowledged_3 ⟨Nat.le_of_ble_eq_true rfl, Nat.le_of_ble_eq_true rfl⟩ (fun r1 f2 H locs hp3 hw => ?_)
  obtain ⟨hp3a, hp3b⟩ := hp3
  rw [hp3b] at hw
  have hp3c : r1 = (if inr p0 0 (nI nw - 1) then 1 else 0) := hp3a.trans (by rw [show μ 2 0 = nI nw from hI1])
  rw [hp3c]
  refine lv_if_eq (tgt := 13) hx hb dX9_acknowledged_6 (by decide) (fun c_4 => ?_) (fun c_4 => ?_)
  · have c_4 := fw_b0 c_4
    refine lv_iconst (v := 1) hx hb dX9_acknowledged_13 (by decide) ?_
    refine fw_callVi hx hb hml hown hts hE hw [.int 1] [] (c_X9_holds l D A y sa f β μ 1 hR) (cwV 1 hts gX9_acknowledged_X9_holds rfl rfl rfl (by decide +kernel) ⟨Nat.le_of_ble_eq_true rfl, Nat.le_of_ble_eq_true rfl⟩) (ci := 9) rfl rfl hR.o rfl hl.1 rfl (Nat.le_of_ble_eq_true rfl) dX9_acknowledged_14 ⟨Nat.le_of_ble_eq_true rfl, Nat.le_of_ble_eq_true rfl⟩ (fun r5 f6 H locs hp7 hw => ?_)
    obtain ⟨hp7a, hR⟩ := hp7
    rw [if_neg (by decide)] at hp7a
    rw [hp7a]
    refine lv_if_eq (tgt := 28) hx hb dX9_acknowledged_17 (by decide) (fun _ => ?_) (fun c_8 => absurd c_8 (by decide))
    refine lv_iconst (v := 0) hx hb dX9_acknowledged_28 (by decide) ?_
    exact fw_iret hx hb hr hlocks hw (Nat.le_of_ble_eq_true rfl) (Nat.le_of_ble_eq_true rfl) dX9_acknowledged_29 (Or.inl (⟨(by first | assumption | exact fun z => absurd z.1 (by assumption) | exact fun z => absurd z.2.1 (by assumption) | exact fun z => absurd z.2.2.1 (by assumption) | exact fun z => absurd z.2.2.2 (by assumption) | exact fun z => absurd z.2 (by assumption) | exact fun z => absurd z.2.2 (by assumption)), rfl, hR⟩))
  · have c_4 := fw_b1 c_4
    refine lv_iconst (v := 0) hx hb dX9_acknowledged_9 (by decide) ?_
    refine lv_goto (tgt := 14) hx hb dX9_acknowledged_10 (by decide) ?_
    refine fw_callVi hx hb hml hown hts hE hw [.int 0] [] (c_X9_holds l D A y sa f β μ 0 hR) (cwV 1 hts gX9_acknowledged_X9_holds rfl rfl rfl (by decide +kernel) ⟨Nat.le_of_ble_eq_true rfl, Nat.le_of_ble_eq_true rfl⟩) (ci := 9) rfl rfl hR.o rfl hl.1 rfl (Nat.le_of_ble_eq_true rfl) dX9_acknowledged_14 ⟨Nat.le_of_ble_eq_true rfl, Nat.le_of_ble_eq_true rfl⟩ (fun r9 f10 H locs hp11 hw => ?_)
    obtain ⟨hp11a, hR⟩ := hp11
    rw [if_pos rfl] at hp11a
    rw [hp11a]
    refine lv_if_eq (tgt := 28) hx hb dX9_acknowledged_17 (by decide) (fun c_12 => absurd c_12 (by decide)) (fun _ => ?_)
    obtain ⟨wv, hwv, rfl⟩ := inr_w (n := nw) (by omega) c_4
    refine lv_aload_n hx hb dX9_acknowledged_20 rfl (lv_at hl 0 rfl) ?_
    refine lv_iload_n hx hb dX9_acknowledged_21 rfl (lv_at hl 1 rfl) ?_
    refine fw_callVi hx hb hml hown hts hE hw [.int (nI wv)] [] (c_X9_counting l D A y sa f10 β (up2 μ 0 0 0) wv (by omega) hR) (cwV 1 hts gX9_acknowledged_X9_counting rfl rfl rfl (by decide +kernel) ⟨Nat.le_of_ble_eq_true rfl, Nat.le_of_ble_eq_true rfl⟩) (ci := 9) rfl rfl hR.o rfl hl.1 rfl (Nat.le_of_ble_eq_true rfl) dX9_acknowledged_22 ⟨Nat.le_of_ble_eq_true rfl, Nat.le_of_ble_eq_true rfl⟩ (fun r13 f14 H locs hp15 hw => ?_)
    obtain ⟨hp15a, hp15b⟩ := hp15
    rw [hp15b] at hw
    rw [hp15a]
    refine lv_goto (tgt := 29) hx hb dX9_acknowledged_25 (by decide) ?_
    exact fw_iret hx hb hr hlocks hw (Nat.le_of_ble_eq_true rfl) (Nat.le_of_ble_eq_true rfl) dX9_acknowledged_29 (Or.inr (⟨wv, hwv, rfl, rfl, hR⟩))

set_option maxHeartbeats 4000000 in
set_option maxRecDepth 100000 in
/-- the reference: claim -/
theorem c_X9_claim (l : Launch) (D : va_G) (A : Nat → Prop) (y : Nat → ClassId) (sa : Nat → Nat) (f : fw_F) (β : Nat → Nat) (μ : mS) (p0 : Int32) (nw wk no nt : Nat) (hI : Im μ nw wk no nt) (hR : Rm y μ β f) : Met l yX9_claim wsX9_claim ({ frames := 3, cells := 0, slots := 0, locals := 73 } : Room) (cPc D A y sa f [.ref (β 0), .int p0]) (cQi D A (fun r f1 => (¬ inr p0 0 (nI nw - 1) ∧ r = 0 ∧ Rm y (up2 μ 0 0 1) β f1) ∨ (∃ wv, wv < nw ∧ p0 = nI wv ∧ r = clM (up2 μ 0 0 0) wv ∧ Rm y (up2 μ 0 0 0) β f1))) 0 0 A := by
  refine fw_met (by decide) rfl [.ref (β 0), .int p0] (Nat.le_of_ble_eq_true rfl) ?_
  intro p e s m args below meth c ls I hin hE hw hl
  obtain ⟨hx, hb, hr, hts, hown, hlocks, hml⟩ := I
  have hown : s.vm.findClass RX9 = some m.cls := hown
  have hl : lv_has ls 2 [(0, .ref (β 0)), (1, .int p0)] := hl
  obtain ⟨hI1, hI2, hI3, hI4, hI5, hI6, hI7, hI8, hI9, hI10, hI11, hI12, hI13⟩ := id hI
  refine lv_aload_n hx hb dX9_claim_0 rfl (lv_at hl 0 rfl) ?_
  refine lv_aload_n hx hb dX9_claim_1 rfl (lv_at hl 0 rfl) ?_
  refine lv_iload_n hx hb dX9_claim_2 rfl (lv_at hl 1 rfl) ?_
  refine fw_callVi hx hb hml hown hts hE hw [.int p0] [.ref (β 0)] (c_X9_isWorker l D A y sa f β μ p0 hR) (cwV 1 hts gX9_claim_X9_isWorker rfl rfl rfl (by decide +kernel) ⟨Nat.le_of_ble_eq_true rfl, Nat.le_of_ble_eq_true rfl⟩) (ci := 9) rfl rfl hR.o rfl hl.1 rfl (Nat.le_of_ble_eq_true rfl) dX9_claim_3 ⟨Nat.le_of_ble_eq_true rfl, Nat.le_of_ble_eq_true rfl⟩ (fun r1 f2 H locs hp3 hw => ?_)
  obtain ⟨hp3a, hp3b⟩ := hp3
  rw [hp3b] at hw
  have hp3c : r1 = (if inr p0 0 (nI nw - 1) then 1 else 0) := hp3a.trans (by rw [show μ 2 0 = nI nw from hI1])
  rw [hp3c]
  refine lv_if_eq (tgt := 13) hx hb dX9_claim_6 (by decide) (fun c_4 => ?_) (fun c_4 => ?_)
  · have c_4 := fw_b0 c_4
    refine lv_iconst (v := 1) hx hb dX9_claim_13 (by decide) ?_
    refine fw_callVi hx hb hml hown hts hE hw [.int 1] [] (c_X9_holds l D A y sa f β μ 1 hR) (cwV 1 hts gX9_claim_X9_holds rfl rfl rfl (by decide +kernel) ⟨Nat.le_of_ble_eq_true rfl, Nat.le_of_ble_eq_true rfl⟩) (ci := 9) rfl rfl hR.o rfl hl.1 rfl (Nat.le_of_ble_eq_true rfl) dX9_claim_14 ⟨Nat.le_of_ble_eq_true rfl, Nat.le_of_ble_eq_true rfl⟩ (fun r5 f6 H locs hp7 hw => ?_)
    obtain ⟨hp7a, hR⟩ := hp7
    rw [if_neg (by decide)] at hp7a
    rw [hp7a]
    refine lv_if_eq (tgt := 28) hx hb dX9_claim_17 (by decide) (fun _ => ?_) (fun c_8 => absurd c_8 (by decide))
    refine lv_iconst (v := 0) hx hb dX9_claim_28 (by decide) ?_
    exact fw_iret hx hb hr hlocks hw (Nat.le_of_ble_eq_true rfl) (Nat.le_of_ble_eq_true rfl) dX9_claim_29 (Or.inl (⟨(by first | assumption | exact fun z => absurd z.1 (by assumption) | exact fun z => absurd z.2.1 (by assumption) | exact fun z => absurd z.2.2.1 (by assumption) | exact fun z => absurd z.2.2.2 (by assumption) | exact fun z => absurd z.2 (by assumption) | exact fun z => absurd z.2.2 (by assumption)), rfl, hR⟩))
  · have c_4 := fw_b1 c_4
    refine lv_iconst (v := 0) hx hb dX9_claim_9 (by decide) ?_
    refine lv_goto (tgt := 14) hx hb dX9_claim_10 (by decide) ?_
    refine fw_callVi hx hb hml hown hts hE hw [.int 0] [] (c_X9_holds l D A y sa f β μ 0 hR) (cwV 1 hts gX9_claim_X9_holds rfl rfl rfl (by decide +kernel) ⟨Nat.le_of_ble_eq_true rfl, Nat.le_of_ble_eq_true rfl⟩) (ci := 9) rfl rfl hR.o rfl hl.1 rfl (Nat.le_of_ble_eq_true rfl) dX9_claim_14 ⟨Nat.le_of_ble_eq_true rfl, Nat.le_of_ble_eq_true rfl⟩ (fun r9 f10 H locs hp11 hw => ?_)
    obtain ⟨hp11a, hR⟩ := hp11
    rw [if_pos rfl] at hp11a
    rw [hp11a]
    refine lv_if_eq (tgt := 28) hx hb dX9_claim_17 (by decide) (fun c_12 => absurd c_12 (by decide)) (fun _ => ?_)
    obtain ⟨wv, hwv, rfl⟩ := inr_w (n := nw) (by omega) c_4
    refine lv_aload_n hx hb dX9_claim_20 rfl (lv_at hl 0 rfl) ?_
    refine lv_iload_n hx hb dX9_claim_21 rfl (lv_at hl 1 rfl) ?_
    refine fw_callVi hx hb hml hown hts hE hw [.int (nI wv)] [] (c_X9_claimOf l D A y sa f10 β (up2 μ 0 0 0) nw wk no nt hI wv (by omega) hR) (cwV 1 hts gX9_claim_X9_claimOf rfl rfl rfl (by decide +kernel) ⟨Nat.le_of_ble_eq_true rfl, Nat.le_of_ble_eq_true rfl⟩) (ci := 9) rfl rfl hR.o rfl hl.1 rfl (Nat.le_of_ble_eq_true rfl) dX9_claim_22 ⟨Nat.le_of_ble_eq_true rfl, Nat.le_of_ble_eq_true rfl⟩ (fun r13 f14 H locs hp15 hw => ?_)
    obtain ⟨hp15a, hp15b⟩ := hp15
    rw [hp15b] at hw
    rw [hp15a]
    refine lv_goto (tgt := 29) hx hb dX9_claim_25 (by decide) ?_
    exact fw_iret hx hb hr hlocks hw (Nat.le_of_ble_eq_true rfl) (Nat.le_of_ble_eq_true rfl) dX9_claim_29 (Or.inr (⟨wv, hwv, rfl, rfl, hR⟩))

set_option maxHeartbeats 4000000 in
set_option maxRecDepth 100000 in
/-- the reference: claimBySlips -/
theorem c_X9_claimBySlips (l : Launch) (D : va_G) (A : Nat → Prop) (y : Nat → ClassId) (sa : Nat → Nat) (f : fw_F) (β : Nat → Nat) (μ : mS) (p0 : Int32) (nw wk no nt : Nat) (hI : Im μ nw wk no nt) (hR : Rm y μ β f) : Met l yX9_claimBySlips wsX9_claimBySlips ({ frames := 3, cells := 0, slots := 0, locals := 73 } : Room) (cPc D A y sa f [.ref (β 0), .int p0]) (cQi D A (fun r f1 => (¬ inr p0 0 (nI nw - 1) ∧ r = 0 ∧ Rm y (up2 μ 0 0 1) β f1) ∨ (∃ wv, wv < nw ∧ p0 = nI wv ∧ r = clM (up2 μ 0 0 0) wv ∧ Rm y (up2 μ 0 0 0) β f1))) 0 0 A := by
  refine fw_met (by decide) rfl [.ref (β 0), .int p0] (Nat.le_of_ble_eq_true rfl) ?_
  intro p e s m args below meth c ls I hin hE hw hl
  obtain ⟨hx, hb, hr, hts, hown, hlocks, hml⟩ := I
  have hown : s.vm.findClass RX9 = some m.cls := hown
  have hl : lv_has ls 2 [(0, .ref (β 0)), (1, .int p0)] := hl
  obtain ⟨hI1, hI2, hI3, hI4, hI5, hI6, hI7, hI8, hI9, hI10, hI11, hI12, hI13⟩ := id hI
  refine lv_aload_n hx hb dX9_claimBySlips_0 rfl (lv_at hl 0 rfl) ?_
  refine lv_aload_n hx hb dX9_claimBySlips_1 rfl (lv_at hl 0 rfl) ?_
  refine lv_iload_n hx hb dX9_claimBySlips_2 rfl (lv_at hl 1 rfl) ?_
  refine fw_callVi hx hb hml hown hts hE hw [.int p0] [.ref (β 0)] (c_X9_isWorker l D A y sa f β μ p0 hR) (cwV 1 hts gX9_claimBySlips_X9_isWorker rfl rfl rfl (by decide +kernel) ⟨Nat.le_of_ble_eq_true rfl, Nat.le_of_ble_eq_true rfl⟩) (ci := 9) rfl rfl hR.o rfl hl.1 rfl (Nat.le_of_ble_eq_true rfl) dX9_claimBySlips_3 ⟨Nat.le_of_ble_eq_true rfl, Nat.le_of_ble_eq_true rfl⟩ (fun r1 f2 H locs hp3 hw => ?_)
  obtain ⟨hp3a, hp3b⟩ := hp3
  rw [hp3b] at hw
  have hp3c : r1 = (if inr p0 0 (nI nw - 1) then 1 else 0) := hp3a.trans (by rw [show μ 2 0 = nI nw from hI1])
  rw [hp3c]
  refine lv_if_eq (tgt := 13) hx hb dX9_claimBySlips_6 (by decide) (fun c_4 => ?_) (fun c_4 => ?_)
  · have c_4 := fw_b0 c_4
    refine lv_iconst (v := 1) hx hb dX9_claimBySlips_13 (by decide) ?_
    refine fw_callVi hx hb hml hown hts hE hw [.int 1] [] (c_X9_holds l D A y sa f β μ 1 hR) (cwV 1 hts gX9_claimBySlips_X9_holds rfl rfl rfl (by decide +kernel) ⟨Nat.le_of_ble_eq_true rfl, Nat.le_of_ble_eq_true rfl⟩) (ci := 9) rfl rfl hR.o rfl hl.1 rfl (Nat.le_of_ble_eq_true rfl) dX9_claimBySlips_14 ⟨Nat.le_of_ble_eq_true rfl, Nat.le_of_ble_eq_true rfl⟩ (fun r5 f6 H locs hp7 hw => ?_)
    obtain ⟨hp7a, hR⟩ := hp7
    rw [if_neg (by decide)] at hp7a
    rw [hp7a]
    refine lv_if_eq (tgt := 28) hx hb dX9_claimBySlips_17 (by decide) (fun _ => ?_) (fun c_8 => absurd c_8 (by decide))
    refine lv_iconst (v := 0) hx hb dX9_claimBySlips_28 (by decide) ?_
    exact fw_iret hx hb hr hlocks hw (Nat.le_of_ble_eq_true rfl) (Nat.le_of_ble_eq_true rfl) dX9_claimBySlips_29 (Or.inl (⟨(by first | assumption | exact fun z => absurd z.1 (by assumption) | exact fun z => absurd z.2.1 (by assumption) | exact fun z => absurd z.2.2.1 (by assumption) | exact fun z => absurd z.2.2.2 (by assumption) | exact fun z => absurd z.2 (by assumption) | exact fun z => absurd z.2.2 (by assumption)), rfl, hR⟩))
  · have c_4 := fw_b1 c_4
    refine lv_iconst (v := 0) hx hb dX9_claimBySlips_9 (by decide) ?_
    refine lv_goto (tgt := 14) hx hb dX9_claimBySlips_10 (by decide) ?_
    refine fw_callVi hx hb hml hown hts hE hw [.int 0] [] (c_X9_holds l D A y sa f β μ 0 hR) (cwV 1 hts gX9_claimBySlips_X9_holds rfl rfl rfl (by decide +kernel) ⟨Nat.le_of_ble_eq_true rfl, Nat.le_of_ble_eq_true rfl⟩) (ci := 9) rfl rfl hR.o rfl hl.1 rfl (Nat.le_of_ble_eq_true rfl) dX9_claimBySlips_14 ⟨Nat.le_of_ble_eq_true rfl, Nat.le_of_ble_eq_true rfl⟩ (fun r9 f10 H locs hp11 hw => ?_)
    obtain ⟨hp11a, hR⟩ := hp11
    rw [if_pos rfl] at hp11a
    rw [hp11a]
    refine lv_if_eq (tgt := 28) hx hb dX9_claimBySlips_17 (by decide) (fun c_12 => absurd c_12 (by decide)) (fun _ => ?_)
    obtain ⟨wv, hwv, rfl⟩ := inr_w (n := nw) (by omega) c_4
    refine lv_aload_n hx hb dX9_claimBySlips_20 rfl (lv_at hl 0 rfl) ?_
    refine lv_iload_n hx hb dX9_claimBySlips_21 rfl (lv_at hl 1 rfl) ?_
    refine fw_callVi hx hb hml hown hts hE hw [.int (nI wv)] [] (c_X9_claimOf l D A y sa f10 β (up2 μ 0 0 0) nw wk no nt hI wv (by omega) hR) (cwV 1 hts gX9_claimBySlips_X9_claimOf rfl rfl rfl (by decide +kernel) ⟨Nat.le_of_ble_eq_true rfl, Nat.le_of_ble_eq_true rfl⟩) (ci := 9) rfl rfl hR.o rfl hl.1 rfl (Nat.le_of_ble_eq_true rfl) dX9_claimBySlips_22 ⟨Nat.le_of_ble_eq_true rfl, Nat.le_of_ble_eq_true rfl⟩ (fun r13 f14 H locs hp15 hw => ?_)
    obtain ⟨hp15a, hp15b⟩ := hp15
    rw [hp15b] at hw
    rw [hp15a]
    refine lv_goto (tgt := 29) hx hb dX9_claimBySlips_25 (by decide) ?_
    exact fw_iret hx hb hr hlocks hw (Nat.le_of_ble_eq_true rfl) (Nat.le_of_ble_eq_true rfl) dX9_claimBySlips_29 (Or.inr (⟨wv, hwv, rfl, rfl, hR⟩))

theorem iX9_toTakeBack_9 : ∀ w ∈ wsX90, w ∈ wsX9_toTakeBack := by decide +kernel
set_option maxHeartbeats 4000000 in
set_option maxRecDepth 100000 in
/-- the reference: toTakeBack -/
theorem c_X9_toTakeBack (l : Launch) (D : va_G) (A : Nat → Prop) (y : Nat → ClassId) (sa : Nat → Nat) (f : fw_F) (β : Nat → Nat) (μ : mS) (p0 : Int32) (nw wk no nt : Nat) (hI : Im μ nw wk no nt) (hR : Rm y μ β f) : Met l yX9_toTakeBack wsX9_toTakeBack ({ frames := 2, cells := 0, slots := 0, locals := 43 } : Room) (cPc D A y sa f [.ref (β 0), .int p0]) (cQi D A (fun r f1 => (¬ inr p0 0 (nI nw - 1) ∧ r = 0 ∧ Rm y (up2 μ 0 0 1) β f1) ∨ (∃ wv, wv < nw ∧ p0 = nI wv ∧ r = μ 11 wv ∧ Rm y (up2 μ 0 0 0) β f1))) 0 0 A := by
  refine fw_met (by decide) rfl [.ref (β 0), .int p0] (Nat.le_of_ble_eq_true rfl) ?_
  intro p e s m args below meth c ls I hin hE hw hl
  obtain ⟨hx, hb, hr, hts, hown, hlocks, hml⟩ := I
  have hown : s.vm.findClass RX9 = some m.cls := hown
  have hl : lv_has ls 2 [(0, .ref (β 0)), (1, .int p0)] := hl
  obtain ⟨hI1, hI2, hI3, hI4, hI5, hI6, hI7, hI8, hI9, hI10, hI11, hI12, hI13⟩ := id hI
  refine lv_aload_n hx hb dX9_toTakeBack_0 rfl (lv_at hl 0 rfl) ?_
  refine lv_aload_n hx hb dX9_toTakeBack_1 rfl (lv_at hl 0 rfl) ?_
  refine lv_iload_n hx hb dX9_toTakeBack_2 rfl (lv_at hl 1 rfl) ?_
  refine fw_callVi hx hb hml hown hts hE hw [.int p0] [.ref (β 0)] (c_X9_isWorker l D A y sa f β μ p0 hR) (cwV 1 hts gX9_toTakeBack_X9_isWorker rfl rfl rfl (by decide +kernel) ⟨Nat.le_of_ble_eq_true rfl, Nat.le_of_ble_eq_true rfl⟩) (ci := 9) rfl rfl hR.o rfl hl.1 rfl (Nat.le_of_ble_eq_true rfl) dX9_toTakeBack_3 ⟨Nat.le_of_ble_eq_true rfl, Nat.le_of_ble_eq_true rfl⟩ (fun r1 f2 H locs hp3 hw => ?_)
  obtain ⟨hp3a, hp3b⟩ := hp3
  rw [hp3b] at hw
  have hp3c : r1 = (if inr p0 0 (nI nw - 1) then 1 else 0) := hp3a.trans (by rw [show μ 2 0 = nI nw from hI1])
  rw [hp3c]
  refine lv_if_eq (tgt := 13) hx hb dX9_toTakeBack_6 (by decide) (fun c_4 => ?_) (fun c_4 => ?_)
  · have c_4 := fw_b0 c_4
    refine lv_iconst (v := 1) hx hb dX9_toTakeBack_13 (by decide) ?_
    refine fw_callVi hx hb hml hown hts hE hw [.int 1] [] (c_X9_holds l D A y sa f β μ 1 hR) (cwV 1 hts gX9_toTakeBack_X9_holds rfl rfl rfl (by decide +kernel) ⟨Nat.le_of_ble_eq_true rfl, Nat.le_of_ble_eq_true rfl⟩) (ci := 9) rfl rfl hR.o rfl hl.1 rfl (Nat.le_of_ble_eq_true rfl) dX9_toTakeBack_14 ⟨Nat.le_of_ble_eq_true rfl, Nat.le_of_ble_eq_true rfl⟩ (fun r5 f6 H locs hp7 hw => ?_)
    obtain ⟨hp7a, hR⟩ := hp7
    rw [if_neg (by decide)] at hp7a
    rw [hp7a]
    refine lv_if_eq (tgt := 29) hx hb dX9_toTakeBack_17 (by decide) (fun _ => ?_) (fun c_8 => absurd c_8 (by decide))
    refine lv_iconst (v := 0) hx hb dX9_toTakeBack_29 (by decide) ?_
    exact fw_iret hx hb hr hlocks hw (Nat.le_of_ble_eq_true rfl) (Nat.le_of_ble_eq_true rfl) dX9_toTakeBack_30 (Or.inl (⟨(by first | assumption | exact fun z => absurd z.1 (by assumption) | exact fun z => absurd z.2.1 (by assumption) | exact fun z => absurd z.2.2.1 (by assumption) | exact fun z => absurd z.2.2.2 (by assumption) | exact fun z => absurd z.2 (by assumption) | exact fun z => absurd z.2.2 (by assumption)), rfl, hR⟩))
  · have c_4 := fw_b1 c_4
    refine lv_iconst (v := 0) hx hb dX9_toTakeBack_9 (by decide) ?_
    refine lv_goto (tgt := 14) hx hb dX9_toTakeBack_10 (by decide) ?_
    refine fw_callVi hx hb hml hown hts hE hw [.int 0] [] (c_X9_holds l D A y sa f β μ 0 hR) (cwV 1 hts gX9_toTakeBack_X9_holds rfl rfl rfl (by decide +kernel) ⟨Nat.le_of_ble_eq_true rfl, Nat.le_of_ble_eq_true rfl⟩) (ci := 9) rfl rfl hR.o rfl hl.1 rfl (Nat.le_of_ble_eq_true rfl) dX9_toTakeBack_14 ⟨Nat.le_of_ble_eq_true rfl, Nat.le_of_ble_eq_true rfl⟩ (fun r9 f10 H locs hp11 hw => ?_)
    obtain ⟨hp11a, hR⟩ := hp11
    rw [if_pos rfl] at hp11a
    rw [hp11a]
    refine lv_if_eq (tgt := 29) hx hb dX9_toTakeBack_17 (by decide) (fun c_12 => absurd c_12 (by decide)) (fun _ => ?_)
    obtain ⟨wv, hwv, rfl⟩ := inr_w (n := nw) (by omega) c_4
    refine lv_aload_n hx hb dX9_toTakeBack_20 rfl (lv_at hl 0 rfl) ?_
    refine fw_get hx hb hts hown hE.1.1 hw (ci := 9) (fs := [.int 0, .int (μ 1 0), .int (μ 2 0), .ref (β 3), .ref (β 4), .ref (β 5), .ref (β 6), .ref (β 7), .ref (β 8), .ref (β 9), .ref (β 10), .ref (β 11), .ref (β 12), .int (μ 13 0), .ref (β 14), .ref (β 15), .ref (β 16), .ref (β 17), .int (μ 18 0), .ref (β 19), .ref (β 20), .int (μ 21 0), .ref (β 22), .ref (β 23), .ref (β 24)]) (v := .ref (β 11)) hR.o iX9_toTakeBack_9 rfl 11 (by decide) rfl (by decide +kernel) dX9_toTakeBack_21 ?_
    refine lv_iload_n hx hb dX9_toTakeBack_24 rfl (lv_at hl 1 rfl) ?_
    refine fw_iald hx hb hE.1.1 hw (g := (μ 11)) hR.a11 0 rfl (vp_in_nI (by omega) (by decide)) dX9_toTakeBack_25 ?_
    rw [nI_clamp (n := wv) (by omega)]
    refine lv_goto (tgt := 30) hx hb dX9_toTakeBack_26 (by decide) ?_
    exact fw_iret hx hb hr hlocks hw (Nat.le_of_ble_eq_true rfl) (Nat.le_of_ble_eq_true rfl) dX9_toTakeBack_30 (Or.inr (⟨wv, hwv, rfl, rfl, hR⟩))

set_option maxHeartbeats 4000000 in
set_option maxRecDepth 100000 in
/-- the reference: due -/
theorem c_X9_due (l : Launch) (D : va_G) (A : Nat → Prop) (y : Nat → ClassId) (sa : Nat → Nat) (f : fw_F) (β : Nat → Nat) (μ : mS) (p0 p1 : Int32) (nw wk no nt : Nat) (hI : Im μ nw wk no nt) (hR : Rm y μ β f) : Met l yX9_due wsX9_due ({ frames := 2, cells := 0, slots := 0, locals := 50 } : Room) (cPc D A y sa f [.ref (β 0), .int p0, .int p1]) (cQi D A (fun r f1 => (¬ inr p0 0 (nI nw - 1) ∧ r = 0 ∧ Rm y (up2 μ 0 0 1) β f1) ∨ (inr p0 0 (nI nw - 1) ∧ ¬ inr p1 0 30 ∧ r = 0 ∧ Rm y (up2 μ 0 0 2) β f1) ∨ (∃ wv kv, wv < nw ∧ kv ≤ 30 ∧ p0 = nI wv ∧ p1 = nI kv ∧ r = duM (up2 μ 0 0 0) wv kv ∧ Rm y (up2 μ 0 0 0) β f1))) 0 0 A := by
  refine fw_met (by decide) rfl [.ref (β 0), .int p0, .int p1] (Nat.le_of_ble_eq_true rfl) ?_
  intro p e s m args below meth c ls I hin hE hw hl
  obtain ⟨hx, hb, hr, hts, hown, hlocks, hml⟩ := I
  have hown : s.vm.findClass RX9 = some m.cls := hown
  have hl : lv_has ls 3 [(0, .ref (β 0)), (1, .int p0), (2, .int p1)] := hl
  obtain ⟨hI1, hI2, hI3, hI4, hI5, hI6, hI7, hI8, hI9, hI10, hI11, hI12, hI13⟩ := id hI
  refine lv_aload_n hx hb dX9_due_0 rfl (lv_at hl 0 rfl) ?_
  refine lv_aload_n hx hb dX9_due_1 rfl (lv_at hl 0 rfl) ?_
  refine lv_iload_n hx hb dX9_due_2 rfl (lv_at hl 1 rfl) ?_
  refine fw_callVi hx hb hml hown hts hE hw [.int p0] [.ref (β 0)] (c_X9_isWorker l D A y sa f β μ p0 hR) (cwV 1 hts gX9_due_X9_isWorker rfl rfl rfl (by decide +kernel) ⟨Nat.le_of_ble_eq_true rfl, Nat.le_of_ble_eq_true rfl⟩) (ci := 9) rfl rfl hR.o rfl hl.1 rfl (Nat.le_of_ble_eq_true rfl) dX9_due_3 ⟨Nat.le_of_ble_eq_true rfl, Nat.le_of_ble_eq_true rfl⟩ (fun r1 f2 H locs hp3 hw => ?_)
  obtain ⟨hp3a, hp3b⟩ := hp3
  rw [hp3b] at hw
  have hp3c : r1 = (if inr p0 0 (nI nw - 1) then 1 else 0) := hp3a.trans (by rw [show μ 2 0 = nI nw from hI1])
  rw [hp3c]
  refine lv_if_ne (tgt := 13) hx hb dX9_due_6 (by decide) (fun c_4 => ?_) (fun c_4 => ?_)
  · have c_4 := fw_b1 c_4
    refine lv_iload_n hx hb dX9_due_13 rfl (lv_at hl 2 rfl) ?_
    refine fw_callSi hx hb hml hown hts hE hw [.int p1] [.ref (β 0)] (c_X9_isWeek l D A y sa f p1) (va_cwS 1 hts gX9_due_X9_isWeek rfl rfl rfl (by decide +kernel) ⟨Nat.le_of_ble_eq_true rfl, Nat.le_of_ble_eq_true rfl⟩) rfl hl.1 rfl (Nat.le_of_ble_eq_true rfl) dX9_due_14 ⟨Nat.le_of_ble_eq_true rfl, Nat.le_of_ble_eq_true rfl⟩ (fun r5 f6 H locs hp7 hw => ?_)
    obtain ⟨hp7a, hp7b⟩ := hp7
    rw [hp7b] at hw
    rw [hp7a]
    refine lv_if_eq (tgt := 24) hx hb dX9_due_17 (by decide) (fun c_8 => ?_) (fun c_8 => ?_)
    · have c_8 := fw_b0 c_8
      refine lv_iconst (v := 2) hx hb dX9_due_24 (by decide) ?_
      refine fw_callVi hx hb hml hown hts hE hw [.int 2] [] (c_X9_holds l D A y sa f β μ 2 hR) (cwV 1 hts gX9_due_X9_holds rfl rfl rfl (by decide +kernel) ⟨Nat.le_of_ble_eq_true rfl, Nat.le_of_ble_eq_true rfl⟩) (ci := 9) rfl rfl hR.o rfl hl.1 rfl (Nat.le_of_ble_eq_true rfl) dX9_due_25 ⟨Nat.le_of_ble_eq_true rfl, Nat.le_of_ble_eq_true rfl⟩ (fun r9 f10 H locs hp11 hw => ?_)
      obtain ⟨hp11a, hR⟩ := hp11
      rw [if_neg (by decide)] at hp11a
      rw [hp11a]
      refine lv_if_eq (tgt := 40) hx hb dX9_due_28 (by decide) (fun _ => ?_) (fun c_12 => absurd c_12 (by decide))
      refine lv_iconst (v := 0) hx hb dX9_due_40 (by decide) ?_
      exact fw_iret hx hb hr hlocks hw (Nat.le_of_ble_eq_true rfl) (Nat.le_of_ble_eq_true rfl) dX9_due_41 (Or.inr (Or.inl (⟨(by first | assumption | exact fun z => absurd z.1 (by assumption) | exact fun z => absurd z.2.1 (by assumption) | exact fun z => absurd z.2.2.1 (by assumption) | exact fun z => absurd z.2.2.2 (by assumption) | exact fun z => absurd z.2 (by assumption) | exact fun z => absurd z.2.2 (by assumption)), (by first | assumption | exact fun z => absurd z.1 (by assumption) | exact fun z => absurd z.2.1 (by assumption) | exact fun z => absurd z.2.2.1 (by assumption) | exact fun z => absurd z.2.2.2 (by assumption) | exact fun z => absurd z.2 (by assumption) | exact fun z => absurd z.2.2 (by assumption)), rfl, hR⟩)))
    · have c_8 := fw_b1 c_8
      refine lv_iconst (v := 0) hx hb dX9_due_20 (by decide) ?_
      refine lv_goto (tgt := 25) hx hb dX9_due_21 (by decide) ?_
      refine fw_callVi hx hb hml hown hts hE hw [.int 0] [] (c_X9_holds l D A y sa f β μ 0 hR) (cwV 1 hts gX9_due_X9_holds rfl rfl rfl (by decide +kernel) ⟨Nat.le_of_ble_eq_true rfl, Nat.le_of_ble_eq_true rfl⟩) (ci := 9) rfl rfl hR.o rfl hl.1 rfl (Nat.le_of_ble_eq_true rfl) dX9_due_25 ⟨Nat.le_of_ble_eq_true rfl, Nat.le_of_ble_eq_true rfl⟩ (fun r13 f14 H locs hp15 hw => ?_)
      obtain ⟨hp15a, hR⟩ := hp15
      rw [if_pos rfl] at hp15a
      rw [hp15a]
      refine lv_if_eq (tgt := 40) hx hb dX9_due_28 (by decide) (fun c_16 => absurd c_16 (by decide)) (fun _ => ?_)
      obtain ⟨wv, hwv, rfl⟩ := inr_w (n := nw) (by omega) c_4
      obtain ⟨kv, hkv, rfl⟩ := inr_of (n := 30) (by decide) c_8
      refine lv_aload_n hx hb dX9_due_31 rfl (lv_at hl 0 rfl) ?_
      refine lv_iload_n hx hb dX9_due_32 rfl (lv_at hl 1 rfl) ?_
      refine lv_iload_n hx hb dX9_due_33 rfl (lv_at hl 2 rfl) ?_
      refine fw_callVi hx hb hml hown hts hE hw [.int (nI wv), .int (nI kv)] [] (c_X9_dueFor l D A y sa f14 β (up2 μ 0 0 0) nw wk no nt hI wv kv (by omega) (by omega) hR) (cwV 2 hts gX9_due_X9_dueFor rfl rfl rfl (by decide +kernel) ⟨Nat.le_of_ble_eq_true rfl, Nat.le_of_ble_eq_true rfl⟩) (ci := 9) rfl rfl hR.o rfl hl.1 rfl (Nat.le_of_ble_eq_true rfl) dX9_due_34 ⟨Nat.le_of_ble_eq_true rfl, Nat.le_of_ble_eq_true rfl⟩ (fun r17 f18 H locs hp19 hw => ?_)
      obtain ⟨hp19a, hp19b⟩ := hp19
      rw [hp19b] at hw
      rw [hp19a]
      refine lv_goto (tgt := 41) hx hb dX9_due_37 (by decide) ?_
      exact fw_iret hx hb hr hlocks hw (Nat.le_of_ble_eq_true rfl) (Nat.le_of_ble_eq_true rfl) dX9_due_41 (Or.inr (Or.inr (⟨wv, kv, hwv, hkv, rfl, rfl, rfl, hR⟩)))
  · have c_4 := fw_b0 c_4
    refine lv_iconst (v := 1) hx hb dX9_due_9 (by decide) ?_
    refine lv_goto (tgt := 25) hx hb dX9_due_10 (by decide) ?_
    refine fw_callVi hx hb hml hown hts hE hw [.int 1] [] (c_X9_holds l D A y sa f β μ 1 hR) (cwV 1 hts gX9_due_X9_holds rfl rfl rfl (by decide +kernel) ⟨Nat.le_of_ble_eq_true rfl, Nat.le_of_ble_eq_true rfl⟩) (ci := 9) rfl rfl hR.o rfl hl.1 rfl (Nat.le_of_ble_eq_true rfl) dX9_due_25 ⟨Nat.le_of_ble_eq_true rfl, Nat.le_of_ble_eq_true rfl⟩ (fun r20 f21 H locs hp22 hw => ?_)
    obtain ⟨hp22a, hR⟩ := hp22
    rw [if_neg (by decide)] at hp22a
    rw [hp22a]
    refine lv_if_eq (tgt := 40) hx hb dX9_due_28 (by decide) (fun _ => ?_) (fun c_23 => absurd c_23 (by decide))
    refine lv_iconst (v := 0) hx hb dX9_due_40 (by decide) ?_
    exact fw_iret hx hb hr hlocks hw (Nat.le_of_ble_eq_true rfl) (Nat.le_of_ble_eq_true rfl) dX9_due_41 (Or.inl (⟨(by first | assumption | exact fun z => absurd z.1 (by assumption) | exact fun z => absurd z.2.1 (by assumption) | exact fun z => absurd z.2.2.1 (by assumption) | exact fun z => absurd z.2.2.2 (by assumption) | exact fun z => absurd z.2 (by assumption) | exact fun z => absurd z.2.2 (by assumption)), rfl, hR⟩))

theorem iX9_pot_9 : ∀ w ∈ wsX90, w ∈ wsX9_pot := by decide +kernel
set_option maxHeartbeats 4000000 in
set_option maxRecDepth 100000 in
/-- the reference: pot -/
theorem c_X9_pot (l : Launch) (D : va_G) (A : Nat → Prop) (y : Nat → ClassId) (sa : Nat → Nat) (f : fw_F) (β : Nat → Nat) (μ : mS) (p0 : Int32) (hR : Rm y μ β f) : Met l yX9_pot wsX9_pot ({ frames := 2, cells := 0, slots := 0, locals := 42 } : Room) (cPc D A y sa f [.ref (β 0), .int p0]) (cQi D A (fun r f1 => (¬ inr p0 0 2 ∧ r = 0 ∧ Rm y (up2 μ 0 0 1) β f1) ∨ (∃ ev, ev ≤ 2 ∧ p0 = nI ev ∧ r = μ 19 ev ∧ Rm y (up2 μ 0 0 0) β f1))) 0 0 A := by
  refine fw_met (by decide) rfl [.ref (β 0), .int p0] (Nat.le_of_ble_eq_true rfl) ?_
  intro p e s m args below meth c ls I hin hE hw hl
  obtain ⟨hx, hb, hr, hts, hown, hlocks, hml⟩ := I
  have hown : s.vm.findClass RX9 = some m.cls := hown
  have hl : lv_has ls 2 [(0, .ref (β 0)), (1, .int p0)] := hl
  refine lv_aload_n hx hb dX9_pot_0 rfl (lv_at hl 0 rfl) ?_
  refine lv_iload_n hx hb dX9_pot_1 rfl (lv_at hl 1 rfl) ?_
  refine fw_callSi hx hb hml hown hts hE hw [.int p0] [.ref (β 0)] (c_X9_isEmployer l D A y sa f p0) (va_cwS 1 hts gX9_pot_X9_isEmployer rfl rfl rfl (by decide +kernel) ⟨Nat.le_of_ble_eq_true rfl, Nat.le_of_ble_eq_true rfl⟩) rfl hl.1 rfl (Nat.le_of_ble_eq_true rfl) dX9_pot_2 ⟨Nat.le_of_ble_eq_true rfl, Nat.le_of_ble_eq_true rfl⟩ (fun r1 f2 H locs hp3 hw => ?_)
  obtain ⟨hp3a, hp3b⟩ := hp3
  rw [hp3b] at hw
  rw [hp3a]
  refine lv_if_eq (tgt := 12) hx hb dX9_pot_5 (by decide) (fun c_4 => ?_) (fun c_4 => ?_)
  · have c_4 := fw_b0 c_4
    refine lv_iconst (v := 1) hx hb dX9_pot_12 (by decide) ?_
    refine fw_callVi hx hb hml hown hts hE hw [.int 1] [] (c_X9_holds l D A y sa f β μ 1 hR) (cwV 1 hts gX9_pot_X9_holds rfl rfl rfl (by decide +kernel) ⟨Nat.le_of_ble_eq_true rfl, Nat.le_of_ble_eq_true rfl⟩) (ci := 9) rfl rfl hR.o rfl hl.1 rfl (Nat.le_of_ble_eq_true rfl) dX9_pot_13 ⟨Nat.le_of_ble_eq_true rfl, Nat.le_of_ble_eq_true rfl⟩ (fun r5 f6 H locs hp7 hw => ?_)
    obtain ⟨hp7a, hR⟩ := hp7
    rw [if_neg (by decide)] at hp7a
    rw [hp7a]
    refine lv_if_eq (tgt := 28) hx hb dX9_pot_16 (by decide) (fun _ => ?_) (fun c_8 => absurd c_8 (by decide))
    refine lv_iconst (v := 0) hx hb dX9_pot_28 (by decide) ?_
    exact fw_iret hx hb hr hlocks hw (Nat.le_of_ble_eq_true rfl) (Nat.le_of_ble_eq_true rfl) dX9_pot_29 (Or.inl (⟨(by first | assumption | exact fun z => absurd z.1 (by assumption) | exact fun z => absurd z.2.1 (by assumption) | exact fun z => absurd z.2.2.1 (by assumption) | exact fun z => absurd z.2.2.2 (by assumption) | exact fun z => absurd z.2 (by assumption) | exact fun z => absurd z.2.2 (by assumption)), rfl, hR⟩))
  · have c_4 := fw_b1 c_4
    refine lv_iconst (v := 0) hx hb dX9_pot_8 (by decide) ?_
    refine lv_goto (tgt := 13) hx hb dX9_pot_9 (by decide) ?_
    refine fw_callVi hx hb hml hown hts hE hw [.int 0] [] (c_X9_holds l D A y sa f β μ 0 hR) (cwV 1 hts gX9_pot_X9_holds rfl rfl rfl (by decide +kernel) ⟨Nat.le_of_ble_eq_true rfl, Nat.le_of_ble_eq_true rfl⟩) (ci := 9) rfl rfl hR.o rfl hl.1 rfl (Nat.le_of_ble_eq_true rfl) dX9_pot_13 ⟨Nat.le_of_ble_eq_true rfl, Nat.le_of_ble_eq_true rfl⟩ (fun r9 f10 H locs hp11 hw => ?_)
    obtain ⟨hp11a, hR⟩ := hp11
    rw [if_pos rfl] at hp11a
    rw [hp11a]
    refine lv_if_eq (tgt := 28) hx hb dX9_pot_16 (by decide) (fun c_12 => absurd c_12 (by decide)) (fun _ => ?_)
    obtain ⟨ev, hev, rfl⟩ := inr_of (n := 2) (by decide) c_4
    refine lv_aload_n hx hb dX9_pot_19 rfl (lv_at hl 0 rfl) ?_
    refine fw_get hx hb hts hown hE.1.1 hw (ci := 9) (fs := [.int 0, .int (μ 1 0), .int (μ 2 0), .ref (β 3), .ref (β 4), .ref (β 5), .ref (β 6), .ref (β 7), .ref (β 8), .ref (β 9), .ref (β 10), .ref (β 11), .ref (β 12), .int (μ 13 0), .ref (β 14), .ref (β 15), .ref (β 16), .ref (β 17), .int (μ 18 0), .ref (β 19), .ref (β 20), .int (μ 21 0), .ref (β 22), .ref (β 23), .ref (β 24)]) (v := .ref (β 19)) hR.o iX9_pot_9 rfl 19 (by decide) rfl (by decide +kernel) dX9_pot_20 ?_
    refine lv_iload_n hx hb dX9_pot_23 rfl (lv_at hl 1 rfl) ?_
    refine fw_iald hx hb hE.1.1 hw (g := (μ 19)) hR.a19 0 rfl (vp_in_nI (by omega) (by decide)) dX9_pot_24 ?_
    rw [nI_clamp (n := ev) (by omega)]
    refine lv_goto (tgt := 29) hx hb dX9_pot_25 (by decide) ?_
    exact fw_iret hx hb hr hlocks hw (Nat.le_of_ble_eq_true rfl) (Nat.le_of_ble_eq_true rfl) dX9_pot_29 (Or.inr (⟨ev, hev, rfl, rfl, hR⟩))

theorem iX9_shortage_9 : ∀ w ∈ wsX90, w ∈ wsX9_shortage := by decide +kernel
set_option maxHeartbeats 4000000 in
set_option maxRecDepth 100000 in
/-- the reference: shortage -/
theorem c_X9_shortage (l : Launch) (D : va_G) (A : Nat → Prop) (y : Nat → ClassId) (sa : Nat → Nat) (f : fw_F) (β : Nat → Nat) (μ : mS) (p0 : Int32) (hR : Rm y μ β f) : Met l yX9_shortage wsX9_shortage ({ frames := 2, cells := 0, slots := 0, locals := 42 } : Room) (cPc D A y sa f [.ref (β 0), .int p0]) (cQi D A (fun r f1 => (¬ inr p0 0 2 ∧ r = 0 ∧ Rm y (up2 μ 0 0 1) β f1) ∨ (∃ ev, ev ≤ 2 ∧ p0 = nI ev ∧ r = μ 20 ev ∧ Rm y (up2 μ 0 0 0) β f1))) 0 0 A := by
  refine fw_met (by decide) rfl [.ref (β 0), .int p0] (Nat.le_of_ble_eq_true rfl) ?_
  intro p e s m args below meth c ls I hin hE hw hl
  obtain ⟨hx, hb, hr, hts, hown, hlocks, hml⟩ := I
  have hown : s.vm.findClass RX9 = some m.cls := hown
  have hl : lv_has ls 2 [(0, .ref (β 0)), (1, .int p0)] := hl
  refine lv_aload_n hx hb dX9_shortage_0 rfl (lv_at hl 0 rfl) ?_
  refine lv_iload_n hx hb dX9_shortage_1 rfl (lv_at hl 1 rfl) ?_
  refine fw_callSi hx hb hml hown hts hE hw [.int p0] [.ref (β 0)] (c_X9_isEmployer l D A y sa f p0) (va_cwS 1 hts gX9_shortage_X9_isEmployer rfl rfl rfl (by decide +kernel) ⟨Nat.le_of_ble_eq_true rfl, Nat.le_of_ble_eq_true rfl⟩) rfl hl.1 rfl (Nat.le_of_ble_eq_true rfl) dX9_shortage_2 ⟨Nat.le_of_ble_eq_true rfl, Nat.le_of_ble_eq_true rfl⟩ (fun r1 f2 H locs hp3 hw => ?_)
  obtain ⟨hp3a, hp3b⟩ := hp3
  rw [hp3b] at hw
  rw [hp3a]
  refine lv_if_eq (tgt := 12) hx hb dX9_shortage_5 (by decide) (fun c_4 => ?_) (fun c_4 => ?_)
  · have c_4 := fw_b0 c_4
    refine lv_iconst (v := 1) hx hb dX9_shortage_12 (by decide) ?_
    refine fw_callVi hx hb hml hown hts hE hw [.int 1] [] (c_X9_holds l D A y sa f β μ 1 hR) (cwV 1 hts gX9_shortage_X9_holds rfl rfl rfl (by decide +kernel) ⟨Nat.le_of_ble_eq_true rfl, Nat.le_of_ble_eq_true rfl⟩) (ci := 9) rfl rfl hR.o rfl hl.1 rfl (Nat.le_of_ble_eq_true rfl) dX9_shortage_13 ⟨Nat.le_of_ble_eq_true rfl, Nat.le_of_ble_eq_true rfl⟩ (fun r5 f6 H locs hp7 hw => ?_)
    obtain ⟨hp7a, hR⟩ := hp7
    rw [if_neg (by decide)] at hp7a
    rw [hp7a]
    refine lv_if_eq (tgt := 28) hx hb dX9_shortage_16 (by decide) (fun _ => ?_) (fun c_8 => absurd c_8 (by decide))
    refine lv_iconst (v := 0) hx hb dX9_shortage_28 (by decide) ?_
    exact fw_iret hx hb hr hlocks hw (Nat.le_of_ble_eq_true rfl) (Nat.le_of_ble_eq_true rfl) dX9_shortage_29 (Or.inl (⟨(by first | assumption | exact fun z => absurd z.1 (by assumption) | exact fun z => absurd z.2.1 (by assumption) | exact fun z => absurd z.2.2.1 (by assumption) | exact fun z => absurd z.2.2.2 (by assumption) | exact fun z => absurd z.2 (by assumption) | exact fun z => absurd z.2.2 (by assumption)), rfl, hR⟩))
  · have c_4 := fw_b1 c_4
    refine lv_iconst (v := 0) hx hb dX9_shortage_8 (by decide) ?_
    refine lv_goto (tgt := 13) hx hb dX9_shortage_9 (by decide) ?_
    refine fw_callVi hx hb hml hown hts hE hw [.int 0] [] (c_X9_holds l D A y sa f β μ 0 hR) (cwV 1 hts gX9_shortage_X9_holds rfl rfl rfl (by decide +kernel) ⟨Nat.le_of_ble_eq_true rfl, Nat.le_of_ble_eq_true rfl⟩) (ci := 9) rfl rfl hR.o rfl hl.1 rfl (Nat.le_of_ble_eq_true rfl) dX9_shortage_13 ⟨Nat.le_of_ble_eq_true rfl, Nat.le_of_ble_eq_true rfl⟩ (fun r9 f10 H locs hp11 hw => ?_)
    obtain ⟨hp11a, hR⟩ := hp11
    rw [if_pos rfl] at hp11a
    rw [hp11a]
    refine lv_if_eq (tgt := 28) hx hb dX9_shortage_16 (by decide) (fun c_12 => absurd c_12 (by decide)) (fun _ => ?_)
    obtain ⟨ev, hev, rfl⟩ := inr_of (n := 2) (by decide) c_4
    refine lv_aload_n hx hb dX9_shortage_19 rfl (lv_at hl 0 rfl) ?_
    refine fw_get hx hb hts hown hE.1.1 hw (ci := 9) (fs := [.int 0, .int (μ 1 0), .int (μ 2 0), .ref (β 3), .ref (β 4), .ref (β 5), .ref (β 6), .ref (β 7), .ref (β 8), .ref (β 9), .ref (β 10), .ref (β 11), .ref (β 12), .int (μ 13 0), .ref (β 14), .ref (β 15), .ref (β 16), .ref (β 17), .int (μ 18 0), .ref (β 19), .ref (β 20), .int (μ 21 0), .ref (β 22), .ref (β 23), .ref (β 24)]) (v := .ref (β 20)) hR.o iX9_shortage_9 rfl 20 (by decide) rfl (by decide +kernel) dX9_shortage_20 ?_
    refine lv_iload_n hx hb dX9_shortage_23 rfl (lv_at hl 1 rfl) ?_
    refine fw_iald hx hb hE.1.1 hw (g := (μ 20)) hR.a20 0 rfl (vp_in_nI (by omega) (by decide)) dX9_shortage_24 ?_
    rw [nI_clamp (n := ev) (by omega)]
    refine lv_goto (tgt := 29) hx hb dX9_shortage_25 (by decide) ?_
    exact fw_iret hx hb hr hlocks hw (Nat.le_of_ble_eq_true rfl) (Nat.le_of_ble_eq_true rfl) dX9_shortage_29 (Or.inr (⟨ev, hev, rfl, rfl, hR⟩))

theorem iX9_setFloor_9 : ∀ w ∈ wsX90, w ∈ wsX9_setFloor := by decide +kernel
set_option maxHeartbeats 4000000 in
set_option maxRecDepth 100000 in
/-- the reference: setFloor -/
theorem c_X9_setFloor (l : Launch) (D : va_G) (A : Nat → Prop) (y : Nat → ClassId) (sa : Nat → Nat) (f : fw_F) (β : Nat → Nat) (μ : mS) (p0 : Int32) (hR : Rm y μ β f) : Met l yX9_setFloor wsX9_setFloor ({ frames := 1, cells := 0, slots := 0, locals := 22 } : Room) (cPc D A y sa f [.ref (β 0), .int p0]) (cQi D A (fun r f1 => (¬ inr p0 0 10000000 ∧ r = 0 ∧ Rm y (up2 μ 0 0 1) β f1) ∨ (inr p0 0 10000000 ∧ r = μ 18 0 ∧ Rm y (up2 (up2 μ 0 0 0) 18 0 p0) β f1))) 0 0 A := by
  refine fw_met (by decide) rfl [.ref (β 0), .int p0] (Nat.le_of_ble_eq_true rfl) ?_
  intro p e s m args below meth c ls I hin hE hw hl
  obtain ⟨hx, hb, hr, hts, hown, hlocks, hml⟩ := I
  have hown : s.vm.findClass RX9 = some m.cls := hown
  have hl : lv_has ls 3 [(0, .ref (β 0)), (1, .int p0)] := hl
  refine lv_aload_n hx hb dX9_setFloor_0 rfl (lv_at hl 0 rfl) ?_
  refine lv_iload_n hx hb dX9_setFloor_1 rfl (lv_at hl 1 rfl) ?_
  refine lv_iconst (v := 0) hx hb dX9_setFloor_2 (by decide) ?_
  refine lv_ldc (own := RX9) (v := 10000000) hx hb hown (hts (.constant RX9 108 (10000000)) (by decide +kernel)) dX9_setFloor_3 ?_
  refine fw_callSi hx hb hml hown hts hE hw [.int p0, .int 0, .int 10000000] [.ref (β 0)] (c_X9_in l D A y sa f p0 0 10000000) (va_cwS 3 hts gX9_setFloor_X9_in rfl rfl rfl (by decide +kernel) ⟨Nat.le_of_ble_eq_true rfl, Nat.le_of_ble_eq_true rfl⟩) rfl hl.1 rfl (Nat.le_of_ble_eq_true rfl) dX9_setFloor_5 ⟨Nat.le_of_ble_eq_true rfl, Nat.le_of_ble_eq_true rfl⟩ (fun r1 f2 H locs hp3 hw => ?_)
  obtain ⟨hp3a, hp3b⟩ := hp3
  rw [hp3b] at hw
  rw [hp3a]
  refine lv_if_eq (tgt := 15) hx hb dX9_setFloor_8 (by decide) (fun c_4 => ?_) (fun c_4 => ?_)
  · have c_4 := fw_b0 c_4
    refine lv_iconst (v := 1) hx hb dX9_setFloor_15 (by decide) ?_
    refine fw_callVi hx hb hml hown hts hE hw [.int 1] [] (c_X9_holds l D A y sa f β μ 1 hR) (cwV 1 hts gX9_setFloor_X9_holds rfl rfl rfl (by decide +kernel) ⟨Nat.le_of_ble_eq_true rfl, Nat.le_of_ble_eq_true rfl⟩) (ci := 9) rfl rfl hR.o rfl hl.1 rfl (Nat.le_of_ble_eq_true rfl) dX9_setFloor_16 ⟨Nat.le_of_ble_eq_true rfl, Nat.le_of_ble_eq_true rfl⟩ (fun r5 f6 H locs hp7 hw => ?_)
    obtain ⟨hp7a, hR⟩ := hp7
    rw [if_neg (by decide)] at hp7a
    rw [hp7a]
    refine lv_if_ne (tgt := 24) hx hb dX9_setFloor_19 (by decide) (fun c_8 => absurd c_8 (by decide)) (fun _ => ?_)
    refine lv_iconst (v := 0) hx hb dX9_setFloor_22 (by decide) ?_
    exact fw_iret hx hb hr hlocks hw (Nat.le_of_ble_eq_true rfl) (Nat.le_of_ble_eq_true rfl) dX9_setFloor_23 (Or.inl (⟨(by first | assumption | exact fun z => absurd z.1 (by assumption) | exact fun z => absurd z.2.1 (by assumption) | exact fun z => absurd z.2.2.1 (by assumption) | exact fun z => absurd z.2.2.2 (by assumption) | exact fun z => absurd z.2 (by assumption) | exact fun z => absurd z.2.2 (by assumption)), rfl, hR⟩))
  · have c_4 := fw_b1 c_4
    refine lv_iconst (v := 0) hx hb dX9_setFloor_11 (by decide) ?_
    refine lv_goto (tgt := 16) hx hb dX9_setFloor_12 (by decide) ?_
    refine fw_callVi hx hb hml hown hts hE hw [.int 0] [] (c_X9_holds l D A y sa f β μ 0 hR) (cwV 1 hts gX9_setFloor_X9_holds rfl rfl rfl (by decide +kernel) ⟨Nat.le_of_ble_eq_true rfl, Nat.le_of_ble_eq_true rfl⟩) (ci := 9) rfl rfl hR.o rfl hl.1 rfl (Nat.le_of_ble_eq_true rfl) dX9_setFloor_16 ⟨Nat.le_of_ble_eq_true rfl, Nat.le_of_ble_eq_true rfl⟩ (fun r9 f10 H locs hp11 hw => ?_)
    obtain ⟨hp11a, hR⟩ := hp11
    rw [if_pos rfl] at hp11a
    rw [hp11a]
    refine lv_if_ne (tgt := 24) hx hb dX9_setFloor_19 (by decide) (fun _ => ?_) (fun c_12 => absurd c_12 (by decide))
    refine lv_aload_n hx hb dX9_setFloor_24 rfl (lv_at hl 0 rfl) ?_
    refine fw_get hx hb hts hown hE.1.1 hw (ci := 9) (fs := [.int 0, .int (μ 1 0), .int (μ 2 0), .ref (β 3), .ref (β 4), .ref (β 5), .ref (β 6), .ref (β 7), .ref (β 8), .ref (β 9), .ref (β 10), .ref (β 11), .ref (β 12), .int (μ 13 0), .ref (β 14), .ref (β 15), .ref (β 16), .ref (β 17), .int (μ 18 0), .ref (β 19), .ref (β 20), .int (μ 21 0), .ref (β 22), .ref (β 23), .ref (β 24)]) (v := .int (μ 18 0)) hR.o iX9_setFloor_9 rfl 18 (by decide) rfl (by decide +kernel) dX9_setFloor_25 ?_
    refine lv_istore_n (lv' := [(2, .int (μ 18 0)), (0, .ref (β 0)), (1, .int p0)]) hx hb dX9_setFloor_28 rfl hl (by decide) rfl (fun ls hl => ?_)
    refine lv_aload_n hx hb dX9_setFloor_29 rfl (lv_at hl 1 rfl) ?_
    refine lv_iload_n hx hb dX9_setFloor_30 rfl (lv_at hl 2 rfl) ?_
    refine fw_put hx hb hts hown hE.1.1 hw (ci := 9) (fs := [.int 0, .int (μ 1 0), .int (μ 2 0), .ref (β 3), .ref (β 4), .ref (β 5), .ref (β 6), .ref (β 7), .ref (β 8), .ref (β 9), .ref (β 10), .ref (β 11), .ref (β 12), .int (μ 13 0), .ref (β 14), .ref (β 15), .ref (β 16), .ref (β 17), .int (μ 18 0), .ref (β 19), .ref (β 20), .int (μ 21 0), .ref (β 22), .ref (β 23), .ref (β 24)]) (v := .int p0) hR.o iX9_setFloor_9 tyX9 tyX9_ok nmX9 rfl 18 (by decide) rfl rfl rfl (Nat.le_of_ble_eq_true rfl) (by decide +kernel) dX9_setFloor_31 (fun H locs hw => ?_)
    obtain ⟨f13, ef13⟩ : ∃ z, z = fw_up f10 (β 0) (.inr (9, [.int 0, .int (μ 1 0), .int (μ 2 0), .ref (β 3), .ref (β 4), .ref (β 5), .ref (β 6), .ref (β 7), .ref (β 8), .ref (β 9), .ref (β 10), .ref (β 11), .ref (β 12), .int (μ 13 0), .ref (β 14), .ref (β 15), .ref (β 16), .ref (β 17), .int p0, .ref (β 19), .ref (β 20), .int (μ 21 0), .ref (β 22), .ref (β 23), .ref (β 24)])) := ⟨_, rfl⟩
    have hw : fw_S D A s.heap f13 H locs := by rw [ef13]; exact hw
    have hR : Rm y (up2 (up2 μ 0 0 0) 18 0 p0) β f13 := by rw [ef13]; exact hR.p18 p0
    refine lv_iload_n hx hb dX9_setFloor_34 rfl (lv_at hl 0 rfl) ?_
    exact fw_iret hx hb hr hlocks hw (Nat.le_of_ble_eq_true rfl) (Nat.le_of_ble_eq_true rfl) dX9_setFloor_35 (Or.inr (⟨by assumption, rfl, hR⟩))

theorem iX9_slip_9 : ∀ w ∈ wsX90, w ∈ wsX9_slip := by decide +kernel
set_option maxHeartbeats 4000000 in
set_option maxRecDepth 100000 in
/-- the reference: slip -/
theorem c_X9_slip (l : Launch) (D : va_G) (A : Nat → Prop) (y : Nat → ClassId) (sa : Nat → Nat) (f : fw_F) (β : Nat → Nat) (μ : mS) (p0 p1 p2 : Int32) (nw wk no nt : Nat) (hI : Im μ nw wk no nt) (hR : Rm y μ β f) : Met l yX9_slip wsX9_slip ({ frames := 2, cells := 0, slots := 0, locals := 43 } : Room) (cPc D A y sa f [.ref (β 0), .int p0, .int p1, .int p2]) (cQi D A (fun r f1 => (¬ inr p0 0 (nI nw - 1) ∧ r = 0 ∧ Rm y (up2 μ 0 0 1) β f1) ∨ (inr p0 0 (nI nw - 1) ∧ ¬ (inr p1 0 30 ∧ inr p2 0 3) ∧ r = 0 ∧ Rm y (up2 μ 0 0 2) β f1) ∨ (∃ wv kv pv, wv < nw ∧ kv ≤ 30 ∧ pv ≤ 3 ∧ p0 = nI wv ∧ p1 = nI kv ∧ p2 = nI pv ∧ r = μ 12 (4 * (31 * wv + kv) + pv) ∧ Rm y (up2 μ 0 0 0) β f1))) 0 0 A := by
  refine fw_met (by decide) rfl [.ref (β 0), .int p0, .int p1, .int p2] (Nat.le_of_ble_eq_true rfl) ?_
  intro p e s m args below meth c ls I hin hE hw hl
  obtain ⟨hx, hb, hr, hts, hown, hlocks, hml⟩ := I
  have hown : s.vm.findClass RX9 = some m.cls := hown
  have hl : lv_has ls 4 [(0, .ref (β 0)), (1, .int p0), (2, .int p1), (3, .int p2)] := hl
  obtain ⟨hI1, hI2, hI3, hI4, hI5, hI6, hI7, hI8, hI9, hI10, hI11, hI12, hI13⟩ := id hI
  refine lv_aload_n hx hb dX9_slip_0 rfl (lv_at hl 0 rfl) ?_
  refine lv_aload_n hx hb dX9_slip_1 rfl (lv_at hl 0 rfl) ?_
  refine lv_iload_n hx hb dX9_slip_2 rfl (lv_at hl 1 rfl) ?_
  refine fw_callVi hx hb hml hown hts hE hw [.int p0] [.ref (β 0)] (c_X9_isWorker l D A y sa f β μ p0 hR) (cwV 1 hts gX9_slip_X9_isWorker rfl rfl rfl (by decide +kernel) ⟨Nat.le_of_ble_eq_true rfl, Nat.le_of_ble_eq_true rfl⟩) (ci := 9) rfl rfl hR.o rfl hl.1 rfl (Nat.le_of_ble_eq_true rfl) dX9_slip_3 ⟨Nat.le_of_ble_eq_true rfl, Nat.le_of_ble_eq_true rfl⟩ (fun r1 f2 H locs hp3 hw => ?_)
  obtain ⟨hp3a, hp3b⟩ := hp3
  rw [hp3b] at hw
  have hp3c : r1 = (if inr p0 0 (nI nw - 1) then 1 else 0) := hp3a.trans (by rw [show μ 2 0 = nI nw from hI1])
  rw [hp3c]
  refine lv_if_ne (tgt := 13) hx hb dX9_slip_6 (by decide) (fun c_4 => ?_) (fun c_4 => ?_)
  · have c_4 := fw_b1 c_4
    refine lv_iload_n hx hb dX9_slip_13 rfl (lv_at hl 2 rfl) ?_
    refine fw_callSi hx hb hml hown hts hE hw [.int p1] [.ref (β 0)] (c_X9_isWeek l D A y sa f p1) (va_cwS 1 hts gX9_slip_X9_isWeek rfl rfl rfl (by decide +kernel) ⟨Nat.le_of_ble_eq_true rfl, Nat.le_of_ble_eq_true rfl⟩) rfl hl.1 rfl (Nat.le_of_ble_eq_true rfl) dX9_slip_14 ⟨Nat.le_of_ble_eq_true rfl, Nat.le_of_ble_eq_true rfl⟩ (fun r5 f6 H locs hp7 hw => ?_)
    obtain ⟨hp7a, hp7b⟩ := hp7
    rw [hp7b] at hw
    rw [hp7a]
    refine lv_if_eq (tgt := 33) hx hb dX9_slip_17 (by decide) (fun c_8 => ?_) (fun c_8 => ?_)
    · have c_8 := fw_b0 c_8
      refine lv_iconst (v := 2) hx hb dX9_slip_33 (by decide) ?_
      refine fw_callVi hx hb hml hown hts hE hw [.int 2] [] (c_X9_holds l D A y sa f β μ 2 hR) (cwV 1 hts gX9_slip_X9_holds rfl rfl rfl (by decide +kernel) ⟨Nat.le_of_ble_eq_true rfl, Nat.le_of_ble_eq_true rfl⟩) (ci := 9) rfl rfl hR.o rfl hl.1 rfl (Nat.le_of_ble_eq_true rfl) dX9_slip_34 ⟨Nat.le_of_ble_eq_true rfl, Nat.le_of_ble_eq_true rfl⟩ (fun r9 f10 H locs hp11 hw => ?_)
      obtain ⟨hp11a, hR⟩ := hp11
      rw [if_neg (by decide)] at hp11a
      rw [hp11a]
      refine lv_if_ne (tgt := 42) hx hb dX9_slip_37 (by decide) (fun c_12 => absurd c_12 (by decide)) (fun _ => ?_)
      refine lv_iconst (v := 0) hx hb dX9_slip_40 (by decide) ?_
      exact fw_iret hx hb hr hlocks hw (Nat.le_of_ble_eq_true rfl) (Nat.le_of_ble_eq_true rfl) dX9_slip_41 (Or.inr (Or.inl (⟨(by first | assumption | exact fun z => absurd z.1 (by assumption) | exact fun z => absurd z.2.1 (by assumption) | exact fun z => absurd z.2.2.1 (by assumption) | exact fun z => absurd z.2.2.2 (by assumption) | exact fun z => absurd z.2 (by assumption) | exact fun z => absurd z.2.2 (by assumption)), (by first | assumption | exact fun z => absurd z.1 (by assumption) | exact fun z => absurd z.2.1 (by assumption) | exact fun z => absurd z.2.2.1 (by assumption) | exact fun z => absurd z.2.2.2 (by assumption) | exact fun z => absurd z.2 (by assumption) | exact fun z => absurd z.2.2 (by assumption)), rfl, hR⟩)))
    · have c_8 := fw_b1 c_8
      refine lv_iload_n hx hb dX9_slip_20 rfl (lv_at hl 3 rfl) ?_
      refine lv_iconst (v := 0) hx hb dX9_slip_21 (by decide) ?_
      refine lv_iconst (v := 3) hx hb dX9_slip_22 (by decide) ?_
      refine fw_callSi hx hb hml hown hts hE hw [.int p2, .int 0, .int 3] [.ref (β 0)] (c_X9_in l D A y sa f p2 0 3) (va_cwS 3 hts gX9_slip_X9_in rfl rfl rfl (by decide +kernel) ⟨Nat.le_of_ble_eq_true rfl, Nat.le_of_ble_eq_true rfl⟩) rfl hl.1 rfl (Nat.le_of_ble_eq_true rfl) dX9_slip_23 ⟨Nat.le_of_ble_eq_true rfl, Nat.le_of_ble_eq_true rfl⟩ (fun r13 f14 H locs hp15 hw => ?_)
      obtain ⟨hp15a, hp15b⟩ := hp15
      rw [hp15b] at hw
      rw [hp15a]
      refine lv_if_eq (tgt := 33) hx hb dX9_slip_26 (by decide) (fun c_16 => ?_) (fun c_16 => ?_)
      · have c_16 := fw_b0 c_16
        refine lv_iconst (v := 2) hx hb dX9_slip_33 (by decide) ?_
        refine fw_callVi hx hb hml hown hts hE hw [.int 2] [] (c_X9_holds l D A y sa f β μ 2 hR) (cwV 1 hts gX9_slip_X9_holds rfl rfl rfl (by decide +kernel) ⟨Nat.le_of_ble_eq_true rfl, Nat.le_of_ble_eq_true rfl⟩) (ci := 9) rfl rfl hR.o rfl hl.1 rfl (Nat.le_of_ble_eq_true rfl) dX9_slip_34 ⟨Nat.le_of_ble_eq_true rfl, Nat.le_of_ble_eq_true rfl⟩ (fun r17 f18 H locs hp19 hw => ?_)
        obtain ⟨hp19a, hR⟩ := hp19
        rw [if_neg (by decide)] at hp19a
        rw [hp19a]
        refine lv_if_ne (tgt := 42) hx hb dX9_slip_37 (by decide) (fun c_20 => absurd c_20 (by decide)) (fun _ => ?_)
        refine lv_iconst (v := 0) hx hb dX9_slip_40 (by decide) ?_
        exact fw_iret hx hb hr hlocks hw (Nat.le_of_ble_eq_true rfl) (Nat.le_of_ble_eq_true rfl) dX9_slip_41 (Or.inr (Or.inl (⟨(by first | assumption | exact fun z => absurd z.1 (by assumption) | exact fun z => absurd z.2.1 (by assumption) | exact fun z => absurd z.2.2.1 (by assumption) | exact fun z => absurd z.2.2.2 (by assumption) | exact fun z => absurd z.2 (by assumption) | exact fun z => absurd z.2.2 (by assumption)), (by first | assumption | exact fun z => absurd z.1 (by assumption) | exact fun z => absurd z.2.1 (by assumption) | exact fun z => absurd z.2.2.1 (by assumption) | exact fun z => absurd z.2.2.2 (by assumption) | exact fun z => absurd z.2 (by assumption) | exact fun z => absurd z.2.2 (by assumption)), rfl, hR⟩)))
      · have c_16 := fw_b1 c_16
        refine lv_iconst (v := 0) hx hb dX9_slip_29 (by decide) ?_
        refine lv_goto (tgt := 34) hx hb dX9_slip_30 (by decide) ?_
        refine fw_callVi hx hb hml hown hts hE hw [.int 0] [] (c_X9_holds l D A y sa f β μ 0 hR) (cwV 1 hts gX9_slip_X9_holds rfl rfl rfl (by decide +kernel) ⟨Nat.le_of_ble_eq_true rfl, Nat.le_of_ble_eq_true rfl⟩) (ci := 9) rfl rfl hR.o rfl hl.1 rfl (Nat.le_of_ble_eq_true rfl) dX9_slip_34 ⟨Nat.le_of_ble_eq_true rfl, Nat.le_of_ble_eq_true rfl⟩ (fun r21 f22 H locs hp23 hw => ?_)
        obtain ⟨hp23a, hR⟩ := hp23
        rw [if_pos rfl] at hp23a
        rw [hp23a]
        refine lv_if_ne (tgt := 42) hx hb dX9_slip_37 (by decide) (fun _ => ?_) (fun c_24 => absurd c_24 (by decide))
        obtain ⟨wv, hwv, rfl⟩ := inr_w (n := nw) (by omega) c_4
        obtain ⟨kv, hkv, rfl⟩ := inr_of (n := 30) (by decide) c_8
        obtain ⟨pv, hpv, rfl⟩ := inr_of (n := 3) (by decide) c_16
        refine lv_aload_n hx hb dX9_slip_42 rfl (lv_at hl 0 rfl) ?_
        refine fw_get hx hb hts hown hE.1.1 hw (ci := 9) (fs := [.int 0, .int (μ 1 0), .int (μ 2 0), .ref (β 3), .ref (β 4), .ref (β 5), .ref (β 6), .ref (β 7), .ref (β 8), .ref (β 9), .ref (β 10), .ref (β 11), .ref (β 12), .int (μ 13 0), .ref (β 14), .ref (β 15), .ref (β 16), .ref (β 17), .int (μ 18 0), .ref (β 19), .ref (β 20), .int (μ 21 0), .ref (β 22), .ref (β 23), .ref (β 24)]) (v := .ref (β 12)) hR.o iX9_slip_9 rfl 12 (by decide) rfl (by decide +kernel) dX9_slip_43 ?_
        refine lv_iconst (v := 4) hx hb dX9_slip_46 (by decide) ?_
        refine lv_bipush (v := 31) hx hb dX9_slip_47 (by decide) ?_
        refine lv_iload_n hx hb dX9_slip_49 rfl (lv_at hl 1 rfl) ?_
        refine lv_imul hx hb dX9_slip_50 ?_
        rw [show ((31 * (nI wv)) : Int32) = (nI (31 * wv)) from nI_mul (31) (wv)]
        refine lv_iload_n hx hb dX9_slip_51 rfl (lv_at hl 2 rfl) ?_
        refine lv_iadd hx hb dX9_slip_52 ?_
        rw [show (((nI (31 * wv)) + (nI kv)) : Int32) = (nI (((31 * wv)) + kv)) from nI_add ((31 * wv)) (kv)]
        refine lv_imul hx hb dX9_slip_53 ?_
        rw [show ((4 * (nI (((31 * wv)) + kv))) : Int32) = (nI (4 * ((((31 * wv)) + kv)))) from nI_mul (4) ((((31 * wv)) + kv))]
        refine lv_iload_n hx hb dX9_slip_54 rfl (lv_at hl 3 rfl) ?_
        refine lv_iadd hx hb dX9_slip_55 ?_
        rw [show (((nI (4 * ((((31 * wv)) + kv)))) + (nI pv)) : Int32) = (nI (((4 * ((((31 * wv)) + kv)))) + pv)) from nI_add ((4 * ((((31 * wv)) + kv)))) (pv)]
        refine fw_iald hx hb hE.1.1 hw (g := (μ 12)) hR.a12 0 rfl (vp_in_nI (by omega) (by decide)) dX9_slip_56 ?_
        rw [nI_clamp (n := (((4 * ((((31 * wv)) + kv)))) + pv)) (by omega)]
        exact fw_iret hx hb hr hlocks hw (Nat.le_of_ble_eq_true rfl) (Nat.le_of_ble_eq_true rfl) dX9_slip_57 (Or.inr (Or.inr (⟨wv, kv, pv, hwv, hkv, hpv, rfl, rfl, rfl, rfl, hR⟩)))
  · have c_4 := fw_b0 c_4
    refine lv_iconst (v := 1) hx hb dX9_slip_9 (by decide) ?_
    refine lv_goto (tgt := 34) hx hb dX9_slip_10 (by decide) ?_
    refine fw_callVi hx hb hml hown hts hE hw [.int 1] [] (c_X9_holds l D A y sa f β μ 1 hR) (cwV 1 hts gX9_slip_X9_holds rfl rfl rfl (by decide +kernel) ⟨Nat.le_of_ble_eq_true rfl, Nat.le_of_ble_eq_true rfl⟩) (ci := 9) rfl rfl hR.o rfl hl.1 rfl (Nat.le_of_ble_eq_true rfl) dX9_slip_34 ⟨Nat.le_of_ble_eq_true rfl, Nat.le_of_ble_eq_true rfl⟩ (fun r25 f26 H locs hp27 hw => ?_)
    obtain ⟨hp27a, hR⟩ := hp27
    rw [if_neg (by decide)] at hp27a
    rw [hp27a]
    refine lv_if_ne (tgt := 42) hx hb dX9_slip_37 (by decide) (fun c_28 => absurd c_28 (by decide)) (fun _ => ?_)
    refine lv_iconst (v := 0) hx hb dX9_slip_40 (by decide) ?_
    exact fw_iret hx hb hr hlocks hw (Nat.le_of_ble_eq_true rfl) (Nat.le_of_ble_eq_true rfl) dX9_slip_41 (Or.inl (⟨(by first | assumption | exact fun z => absurd z.1 (by assumption) | exact fun z => absurd z.2.1 (by assumption) | exact fun z => absurd z.2.2.1 (by assumption) | exact fun z => absurd z.2.2.2 (by assumption) | exact fun z => absurd z.2 (by assumption) | exact fun z => absurd z.2.2 (by assumption)), rfl, hR⟩))
