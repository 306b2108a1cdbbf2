theorem leftF_out {S : pS} {n : Nat} (h : S.2.1 = n) : leftF n S < 0 := by
  rw [leftF, if_neg (by omega)]
  decide
theorem ackF_out {S : pS} {n : Nat} (h : S.1 = n) : ackF n S < 0 := by
  rw [ackF, if_neg (by omega)]
  decide
set_option maxHeartbeats 4000000 in
set_option maxRecDepth 100000 in
/-- the law: a closing is so -/
theorem c_L_isClosedSo (l : Launch) (D : va_G) (A : Nat → Prop) (y : Nat → ClassId) (sa : Nat → Nat) (f g : fw_F) (hfl : l.stackTraces = false) (α β : Nat → Nat → Nat → Nat) (S : pS) (hd : fw_dis f g) (hN : nS S) (hI : IS S) (hR : RS y S α f) (hG : RS y S β g) (hC : cOK S) : Met l yL_isClosedSo wsL_isClosedSo ({ frames := 10, cells := 209, slots := 1420, locals := 183 } : Room) (cPc D A y sa (fw_or f g) [.ref (α 0 0 0), .ref (β 0 0 0)]) (cQi D A (fun r h1 => r = 1 ∧ ∃ S2, stp (closeF S) S S2 ∧ two y S2 (α 0 0 0) (β 0 0 0) h1)) 209 1420 A := by
  refine fw_met (by decide) rfl [.ref (α 0 0 0), .ref (β 0 0 0)] (Nat.le_of_ble_eq_true rfl) ?_
  intro p e s m args below meth c ls I hin hE hw hl
  obtain ⟨hx, hb, hr, hts, hown, hlocks, hml⟩ := I
  have hown : s.vm.findClass RL = some m.cls := hown
  have hl : lv_has ls 9 [(0, .ref (α 0 0 0)), (1, .ref (β 0 0 0))] := hl
  have h8 := hI.1
  have h20 := hI.2.1
  have h31w := hI.2.2.2.1
  have hH : RH y S α (fw_or f g) := RH.l hR hd
  obtain ⟨c1, c2⟩ := hC
  refine lv_aload_n hx hb dL_isClosedSo_0 rfl (lv_at hl 0 rfl) ?_
  refine fw_callVi hx hb hml hown hts hE hw [] [] (rd_week (l := l) (D := D) (A := A) (sa := sa) hH ) (cwV 0 hts gL_isClosedSo_X8_week rfl rfl rfl (by decide +kernel) ⟨Nat.le_of_ble_eq_true rfl, Nat.le_of_ble_eq_true rfl⟩) (ci := 8) rfl rfl hH.x rfl hl.1 rfl (Nat.le_of_ble_eq_true rfl) dL_isClosedSo_1 ⟨by show 0 + 0 ≤ 209; omega, by show 0 + 0 ≤ 1420; omega⟩ (fun r1 f2 H locs hp3 hw => ?_)
  obtain ⟨hp3a, hp3b⟩ := hp3
  rw [hp3b] at hw
  rw [hp3a]
  refine lv_istore_n (lv' := [(2, .int (nI S.2.2.2.1)), (0, .ref (α 0 0 0)), (1, .ref (β 0 0 0))]) hx hb dL_isClosedSo_4 rfl hl (by decide) rfl (fun ls hl => ?_)
  refine lv_iconst (v := 0) hx hb dL_isClosedSo_5 (by decide) ?_
  refine lv_istore_n (lv' := [(3, .int 0), (2, .int (nI S.2.2.2.1)), (0, .ref (α 0 0 0)), (1, .ref (β 0 0 0))]) hx hb dL_isClosedSo_6 rfl hl (by decide) rfl (fun ls hl => ?_)
  refine lv_aload_n hx hb dL_isClosedSo_7 rfl (lv_at hl 2 rfl) ?_
  refine lv_iconst (v := 0) hx hb dL_isClosedSo_8 (by decide) ?_
  refine fw_callVi hx hb hml hown hts hE hw [.int 0] [] (rd_pot (l := l) (D := D) (A := A) (sa := sa) hfl hI hH (i := 0) (by omega)) (cwV 1 hts gL_isClosedSo_X8_pot rfl rfl rfl (by decide +kernel) ⟨Nat.le_of_ble_eq_true rfl, Nat.le_of_ble_eq_true rfl⟩) (ci := 8) rfl rfl hH.x rfl hl.1 rfl (Nat.le_of_ble_eq_true rfl) dL_isClosedSo_9 ⟨by show 0 + 0 + 1 ≤ 209; omega, by show 0 + 0 + 6 ≤ 1420; omega⟩ (fun r4 f5 H locs hp6 hw => ?_)
  obtain ⟨hp6a, hp6b⟩ := hp6
  rw [hp6b] at hw
  rw [hp6a]
  refine lv_aload_n hx hb dL_isClosedSo_12 rfl (lv_at hl 2 rfl) ?_
  refine lv_iconst (v := 1) hx hb dL_isClosedSo_13 (by decide) ?_
  refine fw_callVi hx hb hml hown hts hE hw [.int 1] [.int (S.2.2.2.2 1 0 0)] (rd_pot (l := l) (D := D) (A := A) (sa := sa) hfl hI hH (i := 1) (by omega)) (cwV 1 hts gL_isClosedSo_X8_pot rfl rfl rfl (by decide +kernel) ⟨Nat.le_of_ble_eq_true rfl, Nat.le_of_ble_eq_true rfl⟩) (ci := 8) rfl rfl hH.x rfl hl.1 rfl (Nat.le_of_ble_eq_true rfl) dL_isClosedSo_14 ⟨by show 0 + 0 + 1 + 1 ≤ 209; omega, by show 0 + 0 + 6 + 6 ≤ 1420; omega⟩ (fun r7 f8 H locs hp9 hw => ?_)
  obtain ⟨hp9a, hp9b⟩ := hp9
  rw [hp9b] at hw
  rw [hp9a]
  refine lv_iadd hx hb dL_isClosedSo_17 ?_
  refine lv_aload_n hx hb dL_isClosedSo_18 rfl (lv_at hl 2 rfl) ?_
  refine lv_iconst (v := 2) hx hb dL_isClosedSo_19 (by decide) ?_
  refine fw_callVi hx hb hml hown hts hE hw [.int 2] [.int ((S.2.2.2.2 1 0 0) + (S.2.2.2.2 1 1 0))] (rd_pot (l := l) (D := D) (A := A) (sa := sa) hfl hI hH (i := 2) (by omega)) (cwV 1 hts gL_isClosedSo_X8_pot rfl rfl rfl (by decide +kernel) ⟨Nat.le_of_ble_eq_true rfl, Nat.le_of_ble_eq_true rfl⟩) (ci := 8) rfl rfl hH.x rfl hl.1 rfl (Nat.le_of_ble_eq_true rfl) dL_isClosedSo_20 ⟨by show 0 + 0 + 1 + 1 + 1 ≤ 209; omega, by show 0 + 0 + 6 + 6 + 6 ≤ 1420; omega⟩ (fun r10 f11 H locs hp12 hw => ?_)
  obtain ⟨hp12a, hp12b⟩ := hp12
  rw [hp12b] at hw
  rw [hp12a]
  refine lv_iadd hx hb dL_isClosedSo_23 ?_
  rw [show ((((S.2.2.2.2 1 0 0) + (S.2.2.2.2 1 1 0)) + (S.2.2.2.2 1 2 0)) : Int32) = ptS S from rfl]
  refine lv_istore (lv' := [(4, .int (ptS S)), (3, .int 0), (2, .int (nI S.2.2.2.1)), (0, .ref (α 0 0 0)), (1, .ref (β 0 0 0))]) hx hb dL_isClosedSo_24 hl (by decide) rfl (fun ls hl => ?_)
  refine lv_iconst (v := 0) hx hb dL_isClosedSo_26 (by decide) ?_
  refine lv_istore (lv' := [(5, .int 0), (4, .int (ptS S)), (3, .int 0), (2, .int (nI S.2.2.2.1)), (0, .ref (α 0 0 0)), (1, .ref (β 0 0 0))]) hx hb dL_isClosedSo_27 hl (by decide) rfl (fun ls hl => ?_)
  refine W.widen (k := 3 + 2 * 0) (n := 18 + 12 * 0) (by omega) (by omega) ?_
  refine fw_loop 29 9 (fun i : Nat => S.2.1 - i) (fun i : Nat => i ≤ S.2.1) (fun _ => fw_or f g) (fun i : Nat => [(5, .int (nI i)), (3, .int (gS (fun k => leftF k S) i)), (4, .int (ptS S)), (2, .int (nI S.2.2.2.1)), (0, .ref (α 0 0 0)), (1, .ref (β 0 0 0))]) (fun _ => []) (fun i : Nat => 3 + 2 * i) (fun i : Nat => 18 + 12 * i) (fun i H locs ls hP hw hl IH => ?_) 0 H locs ls (Nat.zero_le _) hw (lv_sub hl [0, 2, 1, 3, 4, 5] rfl)
  rcases Nat.lt_or_ge i S.2.1 with hi | hi
  · refine lv_aload_n hx hb dL_isClosedSo_29 rfl (lv_at hl 4 rfl) ?_
    refine lv_iconst (v := 1) hx hb dL_isClosedSo_30 (by decide) ?_
    refine lv_iload hx hb dL_isClosedSo_31 (lv_at hl 0 rfl) ?_
    refine fw_callSH hx hb hml hown hts hE hw [.ref (α 0 0 0), .int 1, .int (nI i)] [] (c_L_looks_left l D A y sa _ hfl α S i (by omega) hI hH) (vx_cwSW 3 hts gL_isClosedSo_L_looks rfl rfl rfl (by decide +kernel) ⟨Nat.le_of_ble_eq_true rfl, Nat.le_of_ble_eq_true rfl⟩) rfl hl.1 rfl (Nat.le_of_ble_eq_true rfl) dL_isClosedSo_33 ⟨by show 3 + 2 * i + 1 ≤ 209; omega, by show 18 + 12 * i + 6 ≤ 1420; omega⟩ (fun r13 f14 H locs hp15 hw => ?_)
    obtain ⟨hp15a, hp15b⟩ := hp15
    rw [hp15b] at hw
    rw [hp15a]
    refine lv_if_lt (tgt := 55) hx hb dL_isClosedSo_36 (by decide) (fun c_16 => absurd c_16 (c1 i hi)) (fun _ => ?_)
    refine lv_iload_n hx hb dL_isClosedSo_39 rfl (lv_at hl 1 rfl) ?_
    refine lv_aload_n hx hb dL_isClosedSo_40 rfl (lv_at hl 4 rfl) ?_
    refine lv_iconst (v := 1) hx hb dL_isClosedSo_41 (by decide) ?_
    refine lv_iload hx hb dL_isClosedSo_42 (lv_at hl 0 rfl) ?_
    refine fw_callSH hx hb hml hown hts hE hw [.ref (α 0 0 0), .int 1, .int (nI i)] [.int (gS (fun k => leftF k S) i)] (c_L_looks_left l D A y sa _ hfl α S i (by omega) hI hH) (vx_cwSW 3 hts gL_isClosedSo_L_looks rfl rfl rfl (by decide +kernel) ⟨Nat.le_of_ble_eq_true rfl, Nat.le_of_ble_eq_true rfl⟩) rfl hl.1 rfl (Nat.le_of_ble_eq_true rfl) dL_isClosedSo_44 ⟨by show 3 + 2 * i + 1 + 1 ≤ 209; omega, by show 18 + 12 * i + 6 + 6 ≤ 1420; omega⟩ (fun r17 f18 H locs hp19 hw => ?_)
    obtain ⟨hp19a, hp19b⟩ := hp19
    rw [hp19b] at hw
    rw [hp19a]
    refine lv_iadd hx hb dL_isClosedSo_47 ?_
    refine lv_istore_n (lv' := [(3, .int ((gS (fun k => leftF k S) i) + (leftF i S))), (5, .int (nI i)), (4, .int (ptS S)), (2, .int (nI S.2.2.2.1)), (0, .ref (α 0 0 0)), (1, .ref (β 0 0 0))]) hx hb dL_isClosedSo_48 rfl hl (by decide) rfl (fun ls hl => ?_)
    refine lv_iinc (v := (nI (i + 1))) (lv' := [(5, .int (nI (i + 1))), (3, .int ((gS (fun k => leftF k S) i) + (leftF i S))), (4, .int (ptS S)), (2, .int (nI S.2.2.2.1)), (0, .ref (α 0 0 0)), (1, .ref (β 0 0 0))]) hx hb dL_isClosedSo_49 hl (k := 1) rfl (nI_1 (i)) (by decide) rfl (fun ls hl => ?_)
    refine lv_goto (tgt := 29) hx hb dL_isClosedSo_52 (by decide) ?_
    refine W.widen (k := 3 + 2 * (i + 1)) (n := 18 + 12 * (i + 1)) (by omega) (by omega) ?_
    exact IH (i + 1) H locs ls (by omega) (by omega) hw (lv_sub hl [0, 1, 2, 3, 4, 5] rfl)
  · obtain rfl : i = S.2.1 := by omega
    refine lv_aload_n hx hb dL_isClosedSo_29 rfl (lv_at hl 4 rfl) ?_
    refine lv_iconst (v := 1) hx hb dL_isClosedSo_30 (by decide) ?_
    refine lv_iload hx hb dL_isClosedSo_31 (lv_at hl 0 rfl) ?_
    refine fw_callSH hx hb hml hown hts hE hw [.ref (α 0 0 0), .int 1, .int (nI S.2.1)] [] (c_L_looks_left l D A y sa _ hfl α S S.2.1 (by omega) hI hH) (vx_cwSW 3 hts gL_isClosedSo_L_looks rfl rfl rfl (by decide +kernel) ⟨Nat.le_of_ble_eq_true rfl, Nat.le_of_ble_eq_true rfl⟩) rfl hl.1 rfl (Nat.le_of_ble_eq_true rfl) dL_isClosedSo_33 ⟨by show 3 + 2 * S.2.1 + 1 ≤ 209; omega, by show 18 + 12 * S.2.1 + 6 ≤ 1420; omega⟩ (fun r20 f21 H locs hp22 hw => ?_)
    obtain ⟨hp22a, hp22b⟩ := hp22
    rw [hp22b] at hw
    rw [hp22a]
    refine lv_if_lt (tgt := 55) hx hb dL_isClosedSo_36 (by decide) (fun _ => ?_) (fun c_23 => absurd (leftF_out rfl) c_23)
    refine lv_aload_n hx hb dL_isClosedSo_55 rfl (lv_at hl 4 rfl) ?_
    refine lv_bipush (v := 8) hx hb dL_isClosedSo_56 (by decide) ?_
    refine lv_iconst (v := 0) hx hb dL_isClosedSo_58 (by decide) ?_
    refine lv_iconst (v := 0) hx hb dL_isClosedSo_59 (by decide) ?_
    refine lv_iconst (v := 0) hx hb dL_isClosedSo_60 (by decide) ?_
    refine lv_iconst (v := 0) hx hb dL_isClosedSo_61 (by decide) ?_
    refine W.widen (k := 44) (n := 264) (by omega) (by omega) ?_
    rcases c2 with ⟨h31, hc⟩ | ⟨rr, S2, hc, wlt, e1, e2, e3, hI2, ern, l2, a2, en, el, ep⟩
    · refine fw_callSH hx hb hml hown hts hE hw [.ref (α 0 0 0), .int 8, .int 0, .int 0, .int 0, .int 0] [] (met_L hd (fun A => c_L_does l D A y sa f hfl α S 8 0 0 0 0 hN hI hR)) (vx_cwSW 6 hts gL_isClosedSo_L_does rfl rfl rfl (by decide +kernel) ⟨Nat.le_of_ble_eq_true rfl, Nat.le_of_ble_eq_true rfl⟩) rfl hl.1 rfl (Nat.le_of_ble_eq_true rfl) dL_isClosedSo_62 ⟨by show 44 + 8 ≤ 209; omega, by show 264 + 131 ≤ 1420; omega⟩ (fun r24 f25 H locs hp26 hw => ?_)
      obtain ⟨hp26a, hp26b⟩ := hp26.none (doesF_8.trans hc)
      rw [hp26b] at hw
      rw [hp26a]
      refine lv_istore (lv' := [(5, .int (-900000001)), (3, .int (gS (fun k => leftF k S) S.2.1)), (4, .int (ptS S)), (2, .int (nI S.2.2.2.1)), (0, .ref (α 0 0 0)), (1, .ref (β 0 0 0))]) hx hb dL_isClosedSo_65 hl (by decide) rfl (fun ls hl => ?_)
      refine lv_aload_n hx hb dL_isClosedSo_67 rfl (lv_at hl 5 rfl) ?_
      refine lv_bipush (v := 8) hx hb dL_isClosedSo_68 (by decide) ?_
      refine lv_iconst (v := 0) hx hb dL_isClosedSo_70 (by decide) ?_
      refine lv_iconst (v := 0) hx hb dL_isClosedSo_71 (by decide) ?_
      refine lv_iconst (v := 0) hx hb dL_isClosedSo_72 (by decide) ?_
      refine lv_iconst (v := 0) hx hb dL_isClosedSo_73 (by decide) ?_
      refine fw_callSH hx hb hml hown hts hE hw [.ref (β 0 0 0), .int 8, .int 0, .int 0, .int 0, .int 0] [] (met_R hd (fun A => c_L_does l D A y sa g hfl β S 8 0 0 0 0 hN hI hG)) (vx_cwSW 6 hts gL_isClosedSo_L_does rfl rfl rfl (by decide +kernel) ⟨Nat.le_of_ble_eq_true rfl, Nat.le_of_ble_eq_true rfl⟩) rfl hl.1 rfl (Nat.le_of_ble_eq_true rfl) dL_isClosedSo_74 ⟨by show 44 + 8 + 8 ≤ 209; omega, by show 264 + 131 + 131 ≤ 1420; omega⟩ (fun r27 f28 H locs hp29 hw => ?_)
      obtain ⟨hp29a, hp29b⟩ := hp29.none (doesF_8.trans hc)
      rw [hp29b] at hw
      rw [hp29a]
      refine lv_iload hx hb dL_isClosedSo_77 (lv_at hl 0 rfl) ?_
      refine lv_icmp_ne (tgt := 112) hx hb dL_isClosedSo_79 (by decide) (fun c_30 => absurd c_30 (by decide)) (fun _ => ?_)
      refine lv_iload hx hb dL_isClosedSo_82 (lv_at hl 0 rfl) ?_
      refine lv_ldc (own := RL) (v := -900000001) hx hb hown (hts (.constant RL 44 (-900000001)) (by decide +kernel)) dL_isClosedSo_84 ?_
      refine lv_icmp_ne (tgt := 93) hx hb dL_isClosedSo_86 (by decide) (fun c_31 => absurd c_31 (by decide)) (fun _ => ?_)
      refine lv_iconst (v := 1) hx hb dL_isClosedSo_89 (by decide) ?_
      refine lv_goto (tgt := 94) hx hb dL_isClosedSo_90 (by decide) ?_
      refine lv_iload_n hx hb dL_isClosedSo_94 rfl (lv_at hl 3 rfl) ?_
      refine lv_bipush (v := 31) hx hb dL_isClosedSo_95 (by decide) ?_
      refine lv_icmp_ne (tgt := 104) hx hb dL_isClosedSo_97 (by decide) (fun c_32 => absurd (by rw [h31]; rfl) c_32) (fun _ => ?_)
      refine lv_iconst (v := 1) hx hb dL_isClosedSo_100 (by decide) ?_
      refine lv_goto (tgt := 105) hx hb dL_isClosedSo_101 (by decide) ?_
      refine lv_icmp_ne (tgt := 112) hx hb dL_isClosedSo_105 (by decide) (fun c_33 => absurd c_33 (by decide)) (fun _ => ?_)
      refine lv_iconst (v := 1) hx hb dL_isClosedSo_108 (by decide) ?_
      refine lv_goto (tgt := 113) hx hb dL_isClosedSo_109 (by decide) ?_
      refine lv_istore (lv' := [(6, .int 1), (5, .int (-900000001)), (3, .int (gS (fun k => leftF k S) S.2.1)), (4, .int (ptS S)), (2, .int (nI S.2.2.2.1)), (0, .ref (α 0 0 0)), (1, .ref (β 0 0 0))]) hx hb dL_isClosedSo_113 hl (by decide) rfl (fun ls hl => ?_)
      refine lv_iload hx hb dL_isClosedSo_115 (lv_at hl 1 rfl) ?_
      refine lv_ldc (own := RL) (v := -900000001) hx hb hown (hts (.constant RL 44 (-900000001)) (by decide +kernel)) dL_isClosedSo_117 ?_
      refine lv_icmp_ne (tgt := 142) hx hb dL_isClosedSo_119 (by decide) (fun c_34 => absurd c_34 (by decide)) (fun _ => ?_)
      refine lv_iload hx hb dL_isClosedSo_122 (lv_at hl 0 rfl) ?_
      refine lv_if_eq (tgt := 140) hx hb dL_isClosedSo_124 (by decide) (fun c_35 => absurd c_35 (by decide)) (fun _ => ?_)
      refine lv_aload_n hx hb dL_isClosedSo_127 rfl (lv_at hl 5 rfl) ?_
      refine fw_callVi hx hb hml hown hts hE hw [] [] (rd_week (l := l) (D := D) (A := A) (sa := sa) hH ) (cwV 0 hts gL_isClosedSo_X8_week rfl rfl rfl (by decide +kernel) ⟨Nat.le_of_ble_eq_true rfl, Nat.le_of_ble_eq_true rfl⟩) (ci := 8) rfl rfl hH.x rfl hl.1 rfl (Nat.le_of_ble_eq_true rfl) dL_isClosedSo_128 ⟨by show 44 + 8 + 8 + 0 ≤ 209; omega, by show 264 + 131 + 131 + 0 ≤ 1420; omega⟩ (fun r36 f37 H locs hp38 hw => ?_)
      obtain ⟨hp38a, hp38b⟩ := hp38
      rw [hp38b] at hw
      rw [hp38a]
      refine lv_bipush (v := 31) hx hb dL_isClosedSo_131 (by decide) ?_
      refine lv_icmp_ne (tgt := 140) hx hb dL_isClosedSo_133 (by decide) (fun c_39 => absurd (by rw [h31]; rfl) c_39) (fun _ => ?_)
      refine lv_iconst (v := 1) hx hb dL_isClosedSo_136 (by decide) ?_
      refine lv_goto (tgt := 141) hx hb dL_isClosedSo_137 (by decide) ?_
      exact fw_zret hx hb hr hlocks hw (by omega) (by omega) (by decide +kernel) dL_isClosedSo_141 (⟨rfl, S, Or.inl ⟨hc, rfl⟩, α, β, f, g, rfl, rfl, hR, hG, hd, rfl⟩)
    · refine fw_callSH hx hb hml hown hts hE hw [.ref (α 0 0 0), .int 8, .int 0, .int 0, .int 0, .int 0] [] (met_L hd (fun A => c_L_does l D A y sa f hfl α S 8 0 0 0 0 hN hI hR)) (vx_cwSW 6 hts gL_isClosedSo_L_does rfl rfl rfl (by decide +kernel) ⟨Nat.le_of_ble_eq_true rfl, Nat.le_of_ble_eq_true rfl⟩) rfl hl.1 rfl (Nat.le_of_ble_eq_true rfl) dL_isClosedSo_62 ⟨by show 44 + 8 ≤ 209; omega, by show 264 + 131 ≤ 1420; omega⟩ (fun r40 f41 H locs hp42 hw => ?_)
      obtain ⟨hp42a, f1, α2, hp42b, hd1, hα, hR1⟩ := hp42.some (doesF_8.trans hc)
      rw [hp42b] at hw
      rw [hp42a]
      refine lv_istore (lv' := [(5, .int rr), (3, .int (gS (fun k => leftF k S) S.2.1)), (4, .int (ptS S)), (2, .int (nI S.2.2.2.1)), (0, .ref (α 0 0 0)), (1, .ref (β 0 0 0))]) hx hb dL_isClosedSo_65 hl (by decide) rfl (fun ls hl => ?_)
      refine lv_aload_n hx hb dL_isClosedSo_67 rfl (lv_at hl 5 rfl) ?_
      refine lv_bipush (v := 8) hx hb dL_isClosedSo_68 (by decide) ?_
      refine lv_iconst (v := 0) hx hb dL_isClosedSo_70 (by decide) ?_
      refine lv_iconst (v := 0) hx hb dL_isClosedSo_71 (by decide) ?_
      refine lv_iconst (v := 0) hx hb dL_isClosedSo_72 (by decide) ?_
      refine lv_iconst (v := 0) hx hb dL_isClosedSo_73 (by decide) ?_
      refine fw_callSH hx hb hml hown hts hE hw [.ref (β 0 0 0), .int 8, .int 0, .int 0, .int 0, .int 0] [] (met_R hd1 (fun A => c_L_does l D A y sa g hfl β S 8 0 0 0 0 hN hI hG)) (vx_cwSW 6 hts gL_isClosedSo_L_does rfl rfl rfl (by decide +kernel) ⟨Nat.le_of_ble_eq_true rfl, Nat.le_of_ble_eq_true rfl⟩) rfl hl.1 rfl (Nat.le_of_ble_eq_true rfl) dL_isClosedSo_74 ⟨by show 44 + 8 + 8 ≤ 209; omega, by show 264 + 131 + 131 ≤ 1420; omega⟩ (fun r43 f44 H locs hp45 hw => ?_)
      obtain ⟨hp45a, g1, β2, hp45b, hd2, hβ, hG1⟩ := hp45.some (doesF_8.trans hc)
      rw [hp45b] at hw
      rw [hp45a]
      have hl : lv_has ls 9 [(5, .int rr), (3, .int (gS (fun k => leftF k S) S.2.1)), (4, .int (ptS S)), (2, .int (nI S.2.2.2.1)), (0, .ref (α2 0 0 0)), (1, .ref (β 0 0 0))] := by rw [hα]; exact hl
      have hH2 : RH y S2 α2 (fw_or f1 g1) := RH.l hR1 hd2
      refine lv_iload hx hb dL_isClosedSo_77 (lv_at hl 0 rfl) ?_
      refine lv_icmp_ne (tgt := 112) hx hb dL_isClosedSo_79 (by decide) (fun c_46 => absurd (rfl) c_46) (fun _ => ?_)
      refine lv_iload hx hb dL_isClosedSo_82 (lv_at hl 0 rfl) ?_
      refine lv_ldc (own := RL) (v := -900000001) hx hb hown (hts (.constant RL 44 (-900000001)) (by decide +kernel)) dL_isClosedSo_84 ?_
      refine lv_icmp_ne (tgt := 93) hx hb dL_isClosedSo_86 (by decide) (fun _ => ?_) (fun c_47 => absurd c_47 (ern))
      refine lv_iconst (v := 0) hx hb dL_isClosedSo_93 (by decide) ?_
      refine lv_iload_n hx hb dL_isClosedSo_94 rfl (lv_at hl 3 rfl) ?_
      refine lv_bipush (v := 31) hx hb dL_isClosedSo_95 (by decide) ?_
      refine lv_icmp_ne (tgt := 104) hx hb dL_isClosedSo_97 (by decide) (fun _ => ?_) (fun c_48 => absurd c_48 (fun z => absurd (nI_inj2 (b := 31) z (by omega) (by decide)) (by omega)))
      refine lv_iconst (v := 0) hx hb dL_isClosedSo_104 (by decide) ?_
      refine lv_icmp_ne (tgt := 112) hx hb dL_isClosedSo_105 (by decide) (fun c_49 => absurd c_49 (by decide)) (fun _ => ?_)
      refine lv_iconst (v := 1) hx hb dL_isClosedSo_108 (by decide) ?_
      refine lv_goto (tgt := 113) hx hb dL_isClosedSo_109 (by decide) ?_
      refine lv_istore (lv' := [(6, .int 1), (5, .int rr), (3, .int (gS (fun k => leftF k S) S.2.1)), (4, .int (ptS S)), (2, .int (nI S.2.2.2.1)), (0, .ref (α2 0 0 0)), (1, .ref (β 0 0 0))]) hx hb dL_isClosedSo_113 hl (by decide) rfl (fun ls hl => ?_)
      refine lv_iload hx hb dL_isClosedSo_115 (lv_at hl 1 rfl) ?_
      refine lv_ldc (own := RL) (v := -900000001) hx hb hown (hts (.constant RL 44 (-900000001)) (by decide +kernel)) dL_isClosedSo_117 ?_
      refine lv_icmp_ne (tgt := 142) hx hb dL_isClosedSo_119 (by decide) (fun _ => ?_) (fun c_50 => absurd c_50 (ern))
      refine lv_iconst (v := 0) hx hb dL_isClosedSo_142 (by decide) ?_
      refine lv_istore (lv' := [(7, .int 0), (6, .int 1), (5, .int rr), (3, .int (gS (fun k => leftF k S) S.2.1)), (4, .int (ptS S)), (2, .int (nI S.2.2.2.1)), (0, .ref (α2 0 0 0)), (1, .ref (β 0 0 0))]) hx hb dL_isClosedSo_143 hl (by decide) rfl (fun ls hl => ?_)
      refine lv_iconst (v := 0) hx hb dL_isClosedSo_145 (by decide) ?_
      refine lv_istore (lv' := [(8, .int 0), (7, .int 0), (6, .int 1), (5, .int rr), (3, .int (gS (fun k => leftF k S) S.2.1)), (4, .int (ptS S)), (2, .int (nI S.2.2.2.1)), (0, .ref (α2 0 0 0)), (1, .ref (β 0 0 0))]) hx hb dL_isClosedSo_146 hl (by decide) rfl (fun ls hl => ?_)
      refine W.widen (k := 60 + 13 * 0) (n := 526 + 78 * 0) (by omega) (by omega) ?_
      refine fw_loop 148 9 (fun i : Nat => S.1 - i) (fun i : Nat => i ≤ S.1) (fun _ => fw_or f1 g1) (fun i : Nat => [(8, .int (nI i)), (7, .int (gS (nF S2 S.2.2.2.1) i)), (6, .int 1), (5, .int rr), (4, .int (dS (ptS S) (qF S2 S.2.2.2.1) i)), (3, .int (dS (gS (fun k => leftF k S) S.2.1) (fun w => spC S2.2.2.2.2 w S.2.2.2.1 2) i)), (2, .int (nI S.2.2.2.1)), (0, .ref (α2 0 0 0)), (1, .ref (β 0 0 0))]) (fun _ => []) (fun i : Nat => 60 + 13 * i) (fun i : Nat => 526 + 78 * i) (fun i H locs ls hP hw hl IH => ?_) 0 H locs ls (Nat.zero_le _) hw (lv_sub hl [0, 1, 2, 3, 5, 4, 6, 7, 8] rfl)
      rcases Nat.lt_or_ge i S.1 with hi | hi
      · refine lv_aload_n hx hb dL_isClosedSo_148 rfl (lv_at hl 7 rfl) ?_
        refine lv_iconst (v := 0) hx hb dL_isClosedSo_149 (by decide) ?_
        refine lv_iload hx hb dL_isClosedSo_150 (lv_at hl 0 rfl) ?_
        refine fw_callSH hx hb hml hown hts hE hw [.ref (α2 0 0 0), .int 0, .int (nI i)] [] (c_L_looks_ack l D A y sa _ hfl α2 S2 i (by omega) hI2 hH2) (vx_cwSW 3 hts gL_isClosedSo_L_looks rfl rfl rfl (by decide +kernel) ⟨Nat.le_of_ble_eq_true rfl, Nat.le_of_ble_eq_true rfl⟩) rfl hl.1 rfl (Nat.le_of_ble_eq_true rfl) dL_isClosedSo_152 ⟨by show 60 + 13 * i + 1 ≤ 209; omega, by show 526 + 78 * i + 6 ≤ 1420; omega⟩ (fun r51 f52 H locs hp53 hw => ?_)
        obtain ⟨hp53a, hp53b⟩ := hp53
        rw [hp53b] at hw
        rw [hp53a]
        refine lv_if_lt (tgt := 218) hx hb dL_isClosedSo_155 (by decide) (fun c_54 => absurd c_54 (a2 i hi)) (fun _ => ?_)
        refine lv_iload_n hx hb dL_isClosedSo_158 rfl (lv_at hl 5 rfl) ?_
        refine lv_aload_n hx hb dL_isClosedSo_159 rfl (lv_at hl 7 rfl) ?_
        refine lv_iload hx hb dL_isClosedSo_160 (lv_at hl 0 rfl) ?_
        refine lv_iload_n hx hb dL_isClosedSo_162 rfl (lv_at hl 6 rfl) ?_
        refine lv_iconst (v := 2) hx hb dL_isClosedSo_163 (by decide) ?_
        refine fw_callVi hx hb hml hown hts hE hw [.int (nI i), .int (nI S.2.2.2.1), .int 2] [.int (dS (gS (fun k => leftF k S) S.2.1) (fun w => spC S2.2.2.2.2 w S.2.2.2.1 2) i)] (rd_slip (l := l) (D := D) (A := A) (sa := sa) hfl hI2 hH2 (show _ < S2.1 by omega) (k := S.2.2.2.1) (by omega) (pt := 2) (by omega)) (cwV 3 hts gL_isClosedSo_X8_slip rfl rfl rfl (by decide +kernel) ⟨Nat.le_of_ble_eq_true rfl, Nat.le_of_ble_eq_true rfl⟩) (ci := 8) rfl rfl hH2.x rfl hl.1 rfl (Nat.le_of_ble_eq_true rfl) dL_isClosedSo_164 ⟨by show 60 + 13 * i + 1 + 3 ≤ 209; omega, by show 526 + 78 * i + 6 + 18 ≤ 1420; omega⟩ (fun r55 f56 H locs hp57 hw => ?_)
        obtain ⟨hp57a, hp57b⟩ := hp57
        rw [hp57b] at hw
        rw [hp57a]
        refine lv_isub hx hb dL_isClosedSo_167 ?_
        refine lv_istore_n (lv' := [(3, .int ((dS (gS (fun k => leftF k S) S.2.1) (fun w => spC S2.2.2.2.2 w S.2.2.2.1 2) i) - (spC S2.2.2.2.2 i S.2.2.2.1 2))), (8, .int (nI i)), (7, .int (gS (nF S2 S.2.2.2.1) i)), (6, .int 1), (5, .int rr), (4, .int (dS (ptS S) (qF S2 S.2.2.2.1) i)), (2, .int (nI S.2.2.2.1)), (0, .ref (α2 0 0 0)), (1, .ref (β 0 0 0))]) hx hb dL_isClosedSo_168 rfl hl (by decide) rfl (fun ls hl => ?_)
        refine lv_iload hx hb dL_isClosedSo_169 (lv_at hl 5 rfl) ?_
        refine lv_aload_n hx hb dL_isClosedSo_171 rfl (lv_at hl 7 rfl) ?_
        refine lv_iload hx hb dL_isClosedSo_172 (lv_at hl 1 rfl) ?_
        refine lv_iload_n hx hb dL_isClosedSo_174 rfl (lv_at hl 6 rfl) ?_
        refine lv_iconst (v := 0) hx hb dL_isClosedSo_175 (by decide) ?_
        refine fw_callVi hx hb hml hown hts hE hw [.int (nI i), .int (nI S.2.2.2.1), .int 0] [.int (dS (ptS S) (qF S2 S.2.2.2.1) i)] (rd_slip (l := l) (D := D) (A := A) (sa := sa) hfl hI2 hH2 (show _ < S2.1 by omega) (k := S.2.2.2.1) (by omega) (pt := 0) (by omega)) (cwV 3 hts gL_isClosedSo_X8_slip rfl rfl rfl (by decide +kernel) ⟨Nat.le_of_ble_eq_true rfl, Nat.le_of_ble_eq_true rfl⟩) (ci := 8) rfl rfl hH2.x rfl hl.1 rfl (Nat.le_of_ble_eq_true rfl) dL_isClosedSo_176 ⟨by show 60 + 13 * i + 1 + 3 + 3 ≤ 209; omega, by show 526 + 78 * i + 6 + 18 + 18 ≤ 1420; omega⟩ (fun r58 f59 H locs hp60 hw => ?_)
        obtain ⟨hp60a, hp60b⟩ := hp60
        rw [hp60b] at hw
        rw [hp60a]
        refine lv_aload_n hx hb dL_isClosedSo_179 rfl (lv_at hl 7 rfl) ?_
        refine lv_iload hx hb dL_isClosedSo_180 (lv_at hl 1 rfl) ?_
        refine lv_iload_n hx hb dL_isClosedSo_182 rfl (lv_at hl 6 rfl) ?_
        refine lv_iconst (v := 1) hx hb dL_isClosedSo_183 (by decide) ?_
        refine fw_callVi hx hb hml hown hts hE hw [.int (nI i), .int (nI S.2.2.2.1), .int 1] [.int (spC S2.2.2.2.2 i S.2.2.2.1 0), .int (dS (ptS S) (qF S2 S.2.2.2.1) i)] (rd_slip (l := l) (D := D) (A := A) (sa := sa) hfl hI2 hH2 (show _ < S2.1 by omega) (k := S.2.2.2.1) (by omega) (pt := 1) (by omega)) (cwV 3 hts gL_isClosedSo_X8_slip rfl rfl rfl (by decide +kernel) ⟨Nat.le_of_ble_eq_true rfl, Nat.le_of_ble_eq_true rfl⟩) (ci := 8) rfl rfl hH2.x rfl hl.1 rfl (Nat.le_of_ble_eq_true rfl) dL_isClosedSo_184 ⟨by show 60 + 13 * i + 1 + 3 + 3 + 3 ≤ 209; omega, by show 526 + 78 * i + 6 + 18 + 18 + 18 ≤ 1420; omega⟩ (fun r61 f62 H locs hp63 hw => ?_)
        obtain ⟨hp63a, hp63b⟩ := hp63
        rw [hp63b] at hw
        rw [hp63a]
        refine lv_isub hx hb dL_isClosedSo_187 ?_
        refine lv_isub hx hb dL_isClosedSo_188 ?_
        refine lv_istore (lv' := [(4, .int ((dS (ptS S) (qF S2 S.2.2.2.1) i) - ((spC S2.2.2.2.2 i S.2.2.2.1 0) - (spC S2.2.2.2.2 i S.2.2.2.1 1)))), (3, .int ((dS (gS (fun k => leftF k S) S.2.1) (fun w => spC S2.2.2.2.2 w S.2.2.2.1 2) i) - (spC S2.2.2.2.2 i S.2.2.2.1 2))), (8, .int (nI i)), (7, .int (gS (nF S2 S.2.2.2.1) i)), (6, .int 1), (5, .int rr), (2, .int (nI S.2.2.2.1)), (0, .ref (α2 0 0 0)), (1, .ref (β 0 0 0))]) hx hb dL_isClosedSo_189 hl (by decide) rfl (fun ls hl => ?_)
        refine lv_iload hx hb dL_isClosedSo_191 (lv_at hl 3 rfl) ?_
        refine lv_aload_n hx hb dL_isClosedSo_193 rfl (lv_at hl 7 rfl) ?_
        refine lv_iload hx hb dL_isClosedSo_194 (lv_at hl 2 rfl) ?_
        refine lv_iload_n hx hb dL_isClosedSo_196 rfl (lv_at hl 6 rfl) ?_
        refine lv_iconst (v := 0) hx hb dL_isClosedSo_197 (by decide) ?_
        refine fw_callVi hx hb hml hown hts hE hw [.int (nI i), .int (nI S.2.2.2.1), .int 0] [.int (gS (nF S2 S.2.2.2.1) i)] (rd_slip (l := l) (D := D) (A := A) (sa := sa) hfl hI2 hH2 (show _ < S2.1 by omega) (k := S.2.2.2.1) (by omega) (pt := 0) (by omega)) (cwV 3 hts gL_isClosedSo_X8_slip rfl rfl rfl (by decide +kernel) ⟨Nat.le_of_ble_eq_true rfl, Nat.le_of_ble_eq_true rfl⟩) (ci := 8) rfl rfl hH2.x rfl hl.1 rfl (Nat.le_of_ble_eq_true rfl) dL_isClosedSo_198 ⟨by show 60 + 13 * i + 1 + 3 + 3 + 3 + 3 ≤ 209; omega, by show 526 + 78 * i + 6 + 18 + 18 + 18 + 18 ≤ 1420; omega⟩ (fun r64 f65 H locs hp66 hw => ?_)
        obtain ⟨hp66a, hp66b⟩ := hp66
        rw [hp66b] at hw
        rw [hp66a]
        refine fw_join (P := (0 : Int32) < (spC S2.2.2.2.2 i S.2.2.2.1 0)) (a := 1) (b := 0) (pc2 := 209) (ls := ls) (rest := [.int (gS (nF S2 S.2.2.2.1) i)]) ?_ (fun ka kb => ?_)
        · refine lv_iadd hx hb dL_isClosedSo_209 ?_
          refine lv_istore (lv' := [(7, .int ((gS (nF S2 S.2.2.2.1) i) + (if (0 : Int32) < (spC S2.2.2.2.2 i S.2.2.2.1 0) then 1 else 0))), (4, .int ((dS (ptS S) (qF S2 S.2.2.2.1) i) - ((spC S2.2.2.2.2 i S.2.2.2.1 0) - (spC S2.2.2.2.2 i S.2.2.2.1 1)))), (3, .int ((dS (gS (fun k => leftF k S) S.2.1) (fun w => spC S2.2.2.2.2 w S.2.2.2.1 2) i) - (spC S2.2.2.2.2 i S.2.2.2.1 2))), (8, .int (nI i)), (6, .int 1), (5, .int rr), (2, .int (nI S.2.2.2.1)), (0, .ref (α2 0 0 0)), (1, .ref (β 0 0 0))]) hx hb dL_isClosedSo_210 hl (by decide) rfl (fun ls hl => ?_)
          refine lv_iinc (v := (nI (i + 1))) (lv' := [(8, .int (nI (i + 1))), (7, .int ((gS (nF S2 S.2.2.2.1) i) + (if (0 : Int32) < (spC S2.2.2.2.2 i S.2.2.2.1 0) then 1 else 0))), (4, .int ((dS (ptS S) (qF S2 S.2.2.2.1) i) - ((spC S2.2.2.2.2 i S.2.2.2.1 0) - (spC S2.2.2.2.2 i S.2.2.2.1 1)))), (3, .int ((dS (gS (fun k => leftF k S) S.2.1) (fun w => spC S2.2.2.2.2 w S.2.2.2.1 2) i) - (spC S2.2.2.2.2 i S.2.2.2.1 2))), (6, .int 1), (5, .int rr), (2, .int (nI S.2.2.2.1)), (0, .ref (α2 0 0 0)), (1, .ref (β 0 0 0))]) hx hb dL_isClosedSo_212 hl (k := 3) rfl (nI_1 (i)) (by decide) rfl (fun ls hl => ?_)
          refine lv_goto (tgt := 148) hx hb dL_isClosedSo_215 (by decide) ?_
          refine W.widen (k := 60 + 13 * (i + 1)) (n := 526 + 78 * (i + 1)) (by omega) (by omega) ?_
          exact IH (i + 1) H locs ls (by omega) (by omega) hw (lv_sub hl [0, 1, 4, 5, 2, 3, 6, 7, 8] rfl)
        · refine lv_if_le (tgt := 208) hx hb dL_isClosedSo_201 (by decide) (fun c9 => ?_) (fun c9 => ?_)
          · refine lv_iconst (v := 0) hx hb dL_isClosedSo_208 (by decide) ?_
            exact kb (Int32.not_lt.mpr c9)
          · refine lv_iconst (v := 1) hx hb dL_isClosedSo_204 (by decide) ?_
            refine lv_goto (tgt := 209) hx hb dL_isClosedSo_205 (by decide) ?_
            exact ka (Int32.not_le.mp c9)
      · obtain rfl : i = S.1 := by omega
        refine lv_aload_n hx hb dL_isClosedSo_148 rfl (lv_at hl 7 rfl) ?_
        refine lv_iconst (v := 0) hx hb dL_isClosedSo_149 (by decide) ?_
        refine lv_iload hx hb dL_isClosedSo_150 (lv_at hl 0 rfl) ?_
        refine fw_callSH hx hb hml hown hts hE hw [.ref (α2 0 0 0), .int 0, .int (nI S.1)] [] (c_L_looks_ack l D A y sa _ hfl α2 S2 S.1 (by omega) hI2 hH2) (vx_cwSW 3 hts gL_isClosedSo_L_looks rfl rfl rfl (by decide +kernel) ⟨Nat.le_of_ble_eq_true rfl, Nat.le_of_ble_eq_true rfl⟩) rfl hl.1 rfl (Nat.le_of_ble_eq_true rfl) dL_isClosedSo_152 ⟨by show 60 + 13 * S.1 + 1 ≤ 209; omega, by show 526 + 78 * S.1 + 6 ≤ 1420; omega⟩ (fun r67 f68 H locs hp69 hw => ?_)
        obtain ⟨hp69a, hp69b⟩ := hp69
        rw [hp69b] at hw
        rw [hp69a]
        refine lv_if_lt (tgt := 218) hx hb dL_isClosedSo_155 (by decide) (fun _ => ?_) (fun c_70 => absurd (ackF_out e1) c_70)
        refine lv_iconst (v := 0) hx hb dL_isClosedSo_218 (by decide) ?_
        refine lv_istore (lv' := [(8, .int 0), (7, .int (gS (nF S2 S.2.2.2.1) S.1)), (6, .int 1), (5, .int rr), (4, .int (dS (ptS S) (qF S2 S.2.2.2.1) S.1)), (3, .int (dS (gS (fun k => leftF k S) S.2.1) (fun w => spC S2.2.2.2.2 w S.2.2.2.1 2) S.1)), (2, .int (nI S.2.2.2.1)), (0, .ref (α2 0 0 0)), (1, .ref (β 0 0 0))]) hx hb dL_isClosedSo_219 hl (by decide) rfl (fun ls hl => ?_)
        refine W.widen (k := 165 + 2 * 0) (n := 1156 + 12 * 0) (by omega) (by omega) ?_
        refine fw_loop 221 9 (fun i : Nat => S.2.1 - i) (fun i : Nat => i ≤ S.2.1) (fun _ => fw_or f1 g1) (fun i : Nat => [(8, .int (nI i)), (3, .int (dS (dS (gS (fun k => leftF k S) S.2.1) (fun w => spC S2.2.2.2.2 w S.2.2.2.1 2) S.1) (fun k => leftF k S2) i)), (7, .int (gS (nF S2 S.2.2.2.1) S.1)), (6, .int 1), (5, .int rr), (4, .int (dS (ptS S) (qF S2 S.2.2.2.1) S.1)), (2, .int (nI S.2.2.2.1)), (0, .ref (α2 0 0 0)), (1, .ref (β 0 0 0))]) (fun _ => []) (fun i : Nat => 165 + 2 * i) (fun i : Nat => 1156 + 12 * i) (fun i H locs ls hP hw hl IH => ?_) 0 H locs ls (Nat.zero_le _) hw (lv_sub hl [0, 5, 1, 2, 3, 4, 6, 7, 8] rfl)
        rcases Nat.lt_or_ge i S.2.1 with hi | hi
        · refine lv_aload_n hx hb dL_isClosedSo_221 rfl (lv_at hl 7 rfl) ?_
          refine lv_iconst (v := 1) hx hb dL_isClosedSo_222 (by decide) ?_
          refine lv_iload hx hb dL_isClosedSo_223 (lv_at hl 0 rfl) ?_
          refine fw_callSH hx hb hml hown hts hE hw [.ref (α2 0 0 0), .int 1, .int (nI i)] [] (c_L_looks_left l D A y sa _ hfl α2 S2 i (by omega) hI2 hH2) (vx_cwSW 3 hts gL_isClosedSo_L_looks rfl rfl rfl (by decide +kernel) ⟨Nat.le_of_ble_eq_true rfl, Nat.le_of_ble_eq_true rfl⟩) rfl hl.1 rfl (Nat.le_of_ble_eq_true rfl) dL_isClosedSo_225 ⟨by show 165 + 2 * i + 1 ≤ 209; omega, by show 1156 + 12 * i + 6 ≤ 1420; omega⟩ (fun r71 f72 H locs hp73 hw => ?_)
          obtain ⟨hp73a, hp73b⟩ := hp73
          rw [hp73b] at hw
          rw [hp73a]
          refine lv_if_lt (tgt := 247) hx hb dL_isClosedSo_228 (by decide) (fun c_74 => absurd c_74 (l2 i hi)) (fun _ => ?_)
          refine lv_iload_n hx hb dL_isClosedSo_231 rfl (lv_at hl 1 rfl) ?_
          refine lv_aload_n hx hb dL_isClosedSo_232 rfl (lv_at hl 7 rfl) ?_
          refine lv_iconst (v := 1) hx hb dL_isClosedSo_233 (by decide) ?_
          refine lv_iload hx hb dL_isClosedSo_234 (lv_at hl 0 rfl) ?_
          refine fw_callSH hx hb hml hown hts hE hw [.ref (α2 0 0 0), .int 1, .int (nI i)] [.int (dS (dS (gS (fun k => leftF k S) S.2.1) (fun w => spC S2.2.2.2.2 w S.2.2.2.1 2) S.1) (fun k => leftF k S2) i)] (c_L_looks_left l D A y sa _ hfl α2 S2 i (by omega) hI2 hH2) (vx_cwSW 3 hts gL_isClosedSo_L_looks rfl rfl rfl (by decide +kernel) ⟨Nat.le_of_ble_eq_true rfl, Nat.le_of_ble_eq_true rfl⟩) rfl hl.1 rfl (Nat.le_of_ble_eq_true rfl) dL_isClosedSo_236 ⟨by show 165 + 2 * i + 1 + 1 ≤ 209; omega, by show 1156 + 12 * i + 6 + 6 ≤ 1420; omega⟩ (fun r75 f76 H locs hp77 hw => ?_)
          obtain ⟨hp77a, hp77b⟩ := hp77
          rw [hp77b] at hw
          rw [hp77a]
          refine lv_isub hx hb dL_isClosedSo_239 ?_
          refine lv_istore_n (lv' := [(3, .int ((dS (dS (gS (fun k => leftF k S) S.2.1) (fun w => spC S2.2.2.2.2 w S.2.2.2.1 2) S.1) (fun k => leftF k S2) i) - (leftF i S2))), (8, .int (nI i)), (7, .int (gS (nF S2 S.2.2.2.1) S.1)), (6, .int 1), (5, .int rr), (4, .int (dS (ptS S) (qF S2 S.2.2.2.1) S.1)), (2, .int (nI S.2.2.2.1)), (0, .ref (α2 0 0 0)), (1, .ref (β 0 0 0))]) hx hb dL_isClosedSo_240 rfl hl (by decide) rfl (fun ls hl => ?_)
          refine lv_iinc (v := (nI (i + 1))) (lv' := [(8, .int (nI (i + 1))), (3, .int ((dS (dS (gS (fun k => leftF k S) S.2.1) (fun w => spC S2.2.2.2.2 w S.2.2.2.1 2) S.1) (fun k => leftF k S2) i) - (leftF i S2))), (7, .int (gS (nF S2 S.2.2.2.1) S.1)), (6, .int 1), (5, .int rr), (4, .int (dS (ptS S) (qF S2 S.2.2.2.1) S.1)), (2, .int (nI S.2.2.2.1)), (0, .ref (α2 0 0 0)), (1, .ref (β 0 0 0))]) hx hb dL_isClosedSo_241 hl (k := 1) rfl (nI_1 (i)) (by decide) rfl (fun ls hl => ?_)
          refine lv_goto (tgt := 221) hx hb dL_isClosedSo_244 (by decide) ?_
          refine W.widen (k := 165 + 2 * (i + 1)) (n := 1156 + 12 * (i + 1)) (by omega) (by omega) ?_
          exact IH (i + 1) H locs ls (by omega) (by omega) hw (lv_sub hl [0, 1, 2, 3, 4, 5, 6, 7, 8] rfl)
        · obtain rfl : i = S.2.1 := by omega
          refine lv_aload_n hx hb dL_isClosedSo_221 rfl (lv_at hl 7 rfl) ?_
          refine lv_iconst (v := 1) hx hb dL_isClosedSo_222 (by decide) ?_
          refine lv_iload hx hb dL_isClosedSo_223 (lv_at hl 0 rfl) ?_
          refine fw_callSH hx hb hml hown hts hE hw [.ref (α2 0 0 0), .int 1, .int (nI S.2.1)] [] (c_L_looks_left l D A y sa _ hfl α2 S2 S.2.1 (by omega) hI2 hH2) (vx_cwSW 3 hts gL_isClosedSo_L_looks rfl rfl rfl (by decide +kernel) ⟨Nat.le_of_ble_eq_true rfl, Nat.le_of_ble_eq_true rfl⟩) rfl hl.1 rfl (Nat.le_of_ble_eq_true rfl) dL_isClosedSo_225 ⟨by show 165 + 2 * S.2.1 + 1 ≤ 209; omega, by show 1156 + 12 * S.2.1 + 6 ≤ 1420; omega⟩ (fun r78 f79 H locs hp80 hw => ?_)
          obtain ⟨hp80a, hp80b⟩ := hp80
          rw [hp80b] at hw
          rw [hp80a]
          refine lv_if_lt (tgt := 247) hx hb dL_isClosedSo_228 (by decide) (fun _ => ?_) (fun c_81 => absurd (leftF_out e2) c_81)
          refine lv_iload hx hb dL_isClosedSo_247 (lv_at hl 3 rfl) ?_
          refine lv_if_eq (tgt := 299) hx hb dL_isClosedSo_249 (by decide) (fun c_82 => absurd c_82 (by decide)) (fun _ => ?_)
          refine lv_iload hx hb dL_isClosedSo_252 (lv_at hl 2 rfl) ?_
          refine lv_iload hx hb dL_isClosedSo_254 (lv_at hl 4 rfl) ?_
          refine lv_icmp_ne (tgt := 299) hx hb dL_isClosedSo_256 (by decide) (fun c_83 => absurd (en) c_83) (fun _ => ?_)
          refine lv_iload_n hx hb dL_isClosedSo_259 rfl (lv_at hl 1 rfl) ?_
          refine lv_if_ne (tgt := 299) hx hb dL_isClosedSo_260 (by decide) (fun c_84 => absurd (el) c_84) (fun _ => ?_)
          refine lv_iload hx hb dL_isClosedSo_263 (lv_at hl 5 rfl) ?_
          refine lv_aload_n hx hb dL_isClosedSo_265 rfl (lv_at hl 7 rfl) ?_
          refine lv_iconst (v := 0) hx hb dL_isClosedSo_266 (by decide) ?_
          refine fw_callVi hx hb hml hown hts hE hw [.int 0] [.int (dS (ptS S) (qF S2 S.2.2.2.1) S.1)] (rd_pot (l := l) (D := D) (A := A) (sa := sa) hfl hI2 hH2 (i := 0) (by omega)) (cwV 1 hts gL_isClosedSo_X8_pot rfl rfl rfl (by decide +kernel) ⟨Nat.le_of_ble_eq_true rfl, Nat.le_of_ble_eq_true rfl⟩) (ci := 8) rfl rfl hH2.x rfl hl.1 rfl (Nat.le_of_ble_eq_true rfl) dL_isClosedSo_267 ⟨by show 165 + 2 * S.2.1 + 1 + 1 ≤ 209; omega, by show 1156 + 12 * S.2.1 + 6 + 6 ≤ 1420; omega⟩ (fun r85 f86 H locs hp87 hw => ?_)
          obtain ⟨hp87a, hp87b⟩ := hp87
          rw [hp87b] at hw
          rw [hp87a]
          refine lv_aload_n hx hb dL_isClosedSo_270 rfl (lv_at hl 7 rfl) ?_
          refine lv_iconst (v := 1) hx hb dL_isClosedSo_271 (by decide) ?_
          refine fw_callVi hx hb hml hown hts hE hw [.int 1] [.int (S2.2.2.2.2 1 0 0), .int (dS (ptS S) (qF S2 S.2.2.2.1) S.1)] (rd_pot (l := l) (D := D) (A := A) (sa := sa) hfl hI2 hH2 (i := 1) (by omega)) (cwV 1 hts gL_isClosedSo_X8_pot rfl rfl rfl (by decide +kernel) ⟨Nat.le_of_ble_eq_true rfl, Nat.le_of_ble_eq_true rfl⟩) (ci := 8) rfl rfl hH2.x rfl hl.1 rfl (Nat.le_of_ble_eq_true rfl) dL_isClosedSo_272 ⟨by show 165 + 2 * S.2.1 + 1 + 1 + 1 ≤ 209; omega, by show 1156 + 12 * S.2.1 + 6 + 6 + 6 ≤ 1420; omega⟩ (fun r88 f89 H locs hp90 hw => ?_)
          obtain ⟨hp90a, hp90b⟩ := hp90
          rw [hp90b] at hw
          rw [hp90a]
          refine lv_iadd hx hb dL_isClosedSo_275 ?_
          refine lv_aload_n hx hb dL_isClosedSo_276 rfl (lv_at hl 7 rfl) ?_
          refine lv_iconst (v := 2) hx hb dL_isClosedSo_277 (by decide) ?_
          refine fw_callVi hx hb hml hown hts hE hw [.int 2] [.int ((S2.2.2.2.2 1 0 0) + (S2.2.2.2.2 1 1 0)), .int (dS (ptS S) (qF S2 S.2.2.2.1) S.1)] (rd_pot (l := l) (D := D) (A := A) (sa := sa) hfl hI2 hH2 (i := 2) (by omega)) (cwV 1 hts gL_isClosedSo_X8_pot rfl rfl rfl (by decide +kernel) ⟨Nat.le_of_ble_eq_true rfl, Nat.le_of_ble_eq_true rfl⟩) (ci := 8) rfl rfl hH2.x rfl hl.1 rfl (Nat.le_of_ble_eq_true rfl) dL_isClosedSo_278 ⟨by show 165 + 2 * S.2.1 + 1 + 1 + 1 + 1 ≤ 209; omega, by show 1156 + 12 * S.2.1 + 6 + 6 + 6 + 6 ≤ 1420; omega⟩ (fun r91 f92 H locs hp93 hw => ?_)
          obtain ⟨hp93a, hp93b⟩ := hp93
          rw [hp93b] at hw
          rw [hp93a]
          refine lv_iadd hx hb dL_isClosedSo_281 ?_
          refine lv_icmp_ne (tgt := 299) hx hb dL_isClosedSo_282 (by decide) (fun c_94 => absurd (ep) c_94) (fun _ => ?_)
          refine lv_aload_n hx hb dL_isClosedSo_285 rfl (lv_at hl 7 rfl) ?_
          refine fw_callVi hx hb hml hown hts hE hw [] [] (rd_week (l := l) (D := D) (A := A) (sa := sa) hH2 ) (cwV 0 hts gL_isClosedSo_X8_week rfl rfl rfl (by decide +kernel) ⟨Nat.le_of_ble_eq_true rfl, Nat.le_of_ble_eq_true rfl⟩) (ci := 8) rfl rfl hH2.x rfl hl.1 rfl (Nat.le_of_ble_eq_true rfl) dL_isClosedSo_286 ⟨by show 165 + 2 * S.2.1 + 1 + 1 + 1 + 1 + 0 ≤ 209; omega, by show 1156 + 12 * S.2.1 + 6 + 6 + 6 + 6 + 0 ≤ 1420; omega⟩ (fun r95 f96 H locs hp97 hw => ?_)
          obtain ⟨hp97a, hp97b⟩ := hp97
          rw [hp97b] at hw
          rw [hp97a]
          refine lv_iload_n hx hb dL_isClosedSo_289 rfl (lv_at hl 6 rfl) ?_
          refine lv_iconst (v := 1) hx hb dL_isClosedSo_290 (by decide) ?_
          refine lv_iadd hx hb dL_isClosedSo_291 ?_
          refine lv_icmp_ne (tgt := 299) hx hb dL_isClosedSo_292 (by decide) (fun c_98 => absurd (by rw [e3]; exact (nI_1 _).symm) c_98) (fun _ => ?_)
          refine lv_iconst (v := 1) hx hb dL_isClosedSo_295 (by decide) ?_
          refine lv_goto (tgt := 300) hx hb dL_isClosedSo_296 (by decide) ?_
          exact fw_zret hx hb hr hlocks hw (by omega) (by omega) (by decide +kernel) dL_isClosedSo_300 (⟨rfl, S2, Or.inr ⟨rr, hc⟩, α2, β2, f1, g1, hα, hβ, hR1, hG1, hd2, rfl⟩)
