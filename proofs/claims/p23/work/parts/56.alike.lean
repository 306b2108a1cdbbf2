set_option maxHeartbeats 4000000 in
set_option maxRecDepth 100000 in
/-- the law: two are alike -/
theorem c_L_areAlike (l : Launch) (D : va_G) (A : Nat → Prop) (y : Nat → ClassId) (sa : Nat → Nat) (h : fw_F) (hfl : l.stackTraces = false) (α β : Nat → Nat → Nat → Nat) (S : pS) (q : Nat) (hq : q ≤ 30) (h3 : 3 ≤ S.1) (hI : IS S) (hH : RH y S α h) (hG : RH y S β h) : Met l yL_areAlike wsL_areAlike ({ frames := 9, cells := 118, slots := 708, locals := 154 } : Room) (cPc D A y sa h [.ref (α 0 0 0), .ref (β 0 0 0), .int (nI q)]) (cQi D A (fun r h1 => r = 1 ∧ h1 = h)) 118 708 A := by
  refine fw_met (by decide) rfl [.ref (α 0 0 0), .ref (β 0 0 0), .int (nI q)] (Nat.le_of_ble_eq_true rfl) ?_
  intro p e s m args below meth c ls I hin hE hw hl
  obtain ⟨hx, hb, hr, hts, hown, hlocks, hml⟩ := I
  have hown : s.vm.findClass RL = some m.cls := hown
  have hl : lv_has ls 5 [(0, .ref (α 0 0 0)), (1, .ref (β 0 0 0)), (2, .int (nI q))] := hl
  have h8 := hI.1
  have h31 := hI.2.2.2.1
  refine lv_aload_n hx hb dL_areAlike_0 rfl (lv_at hl 0 rfl) ?_
  refine fw_callVi hx hb hml hown hts hE hw [] [] (rd_week (l := l) (D := D) (A := A) (sa := sa) hH ) (cwV 0 hts gL_areAlike_X8_week rfl rfl rfl (by decide +kernel) ⟨Nat.le_of_ble_eq_true rfl, Nat.le_of_ble_eq_true rfl⟩) (ci := 8) rfl rfl hH.x rfl hl.1 rfl (Nat.le_of_ble_eq_true rfl) dL_areAlike_1 ⟨Nat.le_of_ble_eq_true rfl, Nat.le_of_ble_eq_true rfl⟩ (fun r1 f2 H locs hp3 hw => ?_)
  obtain ⟨hp3a, hp3b⟩ := hp3
  rw [hp3b] at hw
  rw [hp3a]
  refine lv_aload_n hx hb dL_areAlike_4 rfl (lv_at hl 1 rfl) ?_
  refine fw_callVi hx hb hml hown hts hE hw [] [.int (nI S.2.2.2.1)] (rd_week (l := l) (D := D) (A := A) (sa := sa) hG ) (cwV 0 hts gL_areAlike_X8_week rfl rfl rfl (by decide +kernel) ⟨Nat.le_of_ble_eq_true rfl, Nat.le_of_ble_eq_true rfl⟩) (ci := 8) rfl rfl hG.x rfl hl.1 rfl (Nat.le_of_ble_eq_true rfl) dL_areAlike_5 ⟨Nat.le_of_ble_eq_true rfl, Nat.le_of_ble_eq_true rfl⟩ (fun r4 f5 H locs hp6 hw => ?_)
  obtain ⟨hp6a, hp6b⟩ := hp6
  rw [hp6b] at hw
  rw [hp6a]
  refine lv_icmp_ne (tgt := 15) hx hb dL_areAlike_8 (by decide) (fun c_7 => absurd (rfl) c_7) (fun _ => ?_)
  refine lv_iconst (v := 1) hx hb dL_areAlike_11 (by decide) ?_
  refine lv_goto (tgt := 16) hx hb dL_areAlike_12 (by decide) ?_
  refine lv_istore_n (lv' := [(3, .int 1), (0, .ref (α 0 0 0)), (1, .ref (β 0 0 0)), (2, .int (nI q))]) hx hb dL_areAlike_16 rfl hl (by decide) rfl (fun ls hl => ?_)
  refine lv_iconst (v := 0) hx hb dL_areAlike_17 (by decide) ?_
  refine lv_istore (lv' := [(4, .int 0), (3, .int 1), (0, .ref (α 0 0 0)), (1, .ref (β 0 0 0)), (2, .int (nI q))]) hx hb dL_areAlike_18 hl (by decide) rfl (fun ls hl => ?_)
  refine W.widen (k := 0 + 26 * 0) (n := 0 + 156 * 0) (by omega) (by omega) ?_
  refine fw_loop 20 5 (fun i : Nat => 3 - i) (fun i : Nat => i ≤ 3) (fun _ => h) (fun i : Nat => [(4, .int (nI i)), (3, .int 1), (0, .ref (α 0 0 0)), (1, .ref (β 0 0 0)), (2, .int (nI q))]) (fun _ => []) (fun i : Nat => 0 + 26 * i) (fun i : Nat => 0 + 156 * i) (fun i H locs ls hP hw hl IH => ?_) 0 H locs ls (Nat.zero_le _) hw (lv_sub hl [0, 1, 2, 3, 4] rfl)
  rcases Nat.lt_or_ge i 3 with hi | hi
  · refine lv_iload hx hb dL_areAlike_20 (lv_at hl 0 rfl) ?_
    refine lv_iconst (v := 3) hx hb dL_areAlike_22 (by decide) ?_
    refine lv_icmp_ge (tgt := 172) hx hb dL_areAlike_23 (by decide) (fun c_8 => absurd c_8 (nI_ge hi (by decide))) (fun _ => ?_)
    refine lv_iload_n hx hb dL_areAlike_26 rfl (lv_at hl 1 rfl) ?_
    refine lv_if_eq (tgt := 172) hx hb dL_areAlike_27 (by decide) (fun c_9 => absurd c_9 (by decide)) (fun _ => ?_)
    refine lv_aload_n hx hb dL_areAlike_30 rfl (lv_at hl 2 rfl) ?_
    refine lv_iload hx hb dL_areAlike_31 (lv_at hl 0 rfl) ?_
    refine fw_callVi hx hb hml hown hts hE hw [.int (nI i)] [] (rd_pot (l := l) (D := D) (A := A) (sa := sa) hfl hI hH (i := i) (by omega)) (cwV 1 hts gL_areAlike_X8_pot rfl rfl rfl (by decide +kernel) ⟨Nat.le_of_ble_eq_true rfl, Nat.le_of_ble_eq_true rfl⟩) (ci := 8) rfl rfl hH.x rfl hl.1 rfl (Nat.le_of_ble_eq_true rfl) dL_areAlike_33 ⟨by show 0 + 26 * i + 1 ≤ 118; omega, by show 0 + 156 * i + 6 ≤ 708; omega⟩ (fun r10 f11 H locs hp12 hw => ?_)
    obtain ⟨hp12a, hp12b⟩ := hp12
    rw [hp12b] at hw
    rw [hp12a]
    refine lv_aload_n hx hb dL_areAlike_36 rfl (lv_at hl 3 rfl) ?_
    refine lv_iload hx hb dL_areAlike_37 (lv_at hl 0 rfl) ?_
    refine fw_callVi hx hb hml hown hts hE hw [.int (nI i)] [.int (S.2.2.2.2 1 i 0)] (rd_pot (l := l) (D := D) (A := A) (sa := sa) hfl hI hG (i := i) (by omega)) (cwV 1 hts gL_areAlike_X8_pot rfl rfl rfl (by decide +kernel) ⟨Nat.le_of_ble_eq_true rfl, Nat.le_of_ble_eq_true rfl⟩) (ci := 8) rfl rfl hG.x rfl hl.1 rfl (Nat.le_of_ble_eq_true rfl) dL_areAlike_39 ⟨by show 0 + 26 * i + 1 + 1 ≤ 118; omega, by show 0 + 156 * i + 6 + 6 ≤ 708; omega⟩ (fun r13 f14 H locs hp15 hw => ?_)
    obtain ⟨hp15a, hp15b⟩ := hp15
    rw [hp15b] at hw
    rw [hp15a]
    refine lv_icmp_ne (tgt := 164) hx hb dL_areAlike_42 (by decide) (fun c_16 => absurd (rfl) c_16) (fun _ => ?_)
    refine lv_aload_n hx hb dL_areAlike_45 rfl (lv_at hl 2 rfl) ?_
    refine lv_iload hx hb dL_areAlike_46 (lv_at hl 0 rfl) ?_
    refine fw_callVi hx hb hml hown hts hE hw [.int (nI i)] [] (rd_shortage (l := l) (D := D) (A := A) (sa := sa) hfl hI hH (i := i) (by omega)) (cwV 1 hts gL_areAlike_X8_shortage rfl rfl rfl (by decide +kernel) ⟨Nat.le_of_ble_eq_true rfl, Nat.le_of_ble_eq_true rfl⟩) (ci := 8) rfl rfl hH.x rfl hl.1 rfl (Nat.le_of_ble_eq_true rfl) dL_areAlike_48 ⟨by show 0 + 26 * i + 1 + 1 + 1 ≤ 118; omega, by show 0 + 156 * i + 6 + 6 + 6 ≤ 708; omega⟩ (fun r17 f18 H locs hp19 hw => ?_)
    obtain ⟨hp19a, hp19b⟩ := hp19
    rw [hp19b] at hw
    rw [hp19a]
    refine lv_aload_n hx hb dL_areAlike_51 rfl (lv_at hl 3 rfl) ?_
    refine lv_iload hx hb dL_areAlike_52 (lv_at hl 0 rfl) ?_
    refine fw_callVi hx hb hml hown hts hE hw [.int (nI i)] [.int (S.2.2.2.2 1 i 1)] (rd_shortage (l := l) (D := D) (A := A) (sa := sa) hfl hI hG (i := i) (by omega)) (cwV 1 hts gL_areAlike_X8_shortage rfl rfl rfl (by decide +kernel) ⟨Nat.le_of_ble_eq_true rfl, Nat.le_of_ble_eq_true rfl⟩) (ci := 8) rfl rfl hG.x rfl hl.1 rfl (Nat.le_of_ble_eq_true rfl) dL_areAlike_54 ⟨by show 0 + 26 * i + 1 + 1 + 1 + 1 ≤ 118; omega, by show 0 + 156 * i + 6 + 6 + 6 + 6 ≤ 708; omega⟩ (fun r20 f21 H locs hp22 hw => ?_)
    obtain ⟨hp22a, hp22b⟩ := hp22
    rw [hp22b] at hw
    rw [hp22a]
    refine lv_icmp_ne (tgt := 164) hx hb dL_areAlike_57 (by decide) (fun c_23 => absurd (rfl) c_23) (fun _ => ?_)
    refine lv_aload_n hx hb dL_areAlike_60 rfl (lv_at hl 2 rfl) ?_
    refine lv_iload hx hb dL_areAlike_61 (lv_at hl 0 rfl) ?_
    refine fw_callVi hx hb hml hown hts hE hw [.int (nI i)] [] (rd_claim (l := l) (D := D) (A := A) (sa := sa) hfl hI hH (show _ < S.1 by omega)) (cwV 1 hts gL_areAlike_X8_claim rfl rfl rfl (by decide +kernel) ⟨Nat.le_of_ble_eq_true rfl, Nat.le_of_ble_eq_true rfl⟩) (ci := 8) rfl rfl hH.x rfl hl.1 rfl (Nat.le_of_ble_eq_true rfl) dL_areAlike_63 ⟨by show 0 + 26 * i + 1 + 1 + 1 + 1 + 1 ≤ 118; omega, by show 0 + 156 * i + 6 + 6 + 6 + 6 + 6 ≤ 708; omega⟩ (fun r24 f25 H locs hp26 hw => ?_)
    obtain ⟨hp26a, hp26b⟩ := hp26
    rw [hp26b] at hw
    rw [hp26a]
    refine lv_aload_n hx hb dL_areAlike_66 rfl (lv_at hl 3 rfl) ?_
    refine lv_iload hx hb dL_areAlike_67 (lv_at hl 0 rfl) ?_
    refine fw_callVi hx hb hml hown hts hE hw [.int (nI i)] [.int (clC S.2.2.2.2 S.2.2.2.1 i)] (rd_claim (l := l) (D := D) (A := A) (sa := sa) hfl hI hG (show _ < S.1 by omega)) (cwV 1 hts gL_areAlike_X8_claim rfl rfl rfl (by decide +kernel) ⟨Nat.le_of_ble_eq_true rfl, Nat.le_of_ble_eq_true rfl⟩) (ci := 8) rfl rfl hG.x rfl hl.1 rfl (Nat.le_of_ble_eq_true rfl) dL_areAlike_69 ⟨by show 0 + 26 * i + 1 + 1 + 1 + 1 + 1 + 1 ≤ 118; omega, by show 0 + 156 * i + 6 + 6 + 6 + 6 + 6 + 6 ≤ 708; omega⟩ (fun r27 f28 H locs hp29 hw => ?_)
    obtain ⟨hp29a, hp29b⟩ := hp29
    rw [hp29b] at hw
    rw [hp29a]
    refine lv_icmp_ne (tgt := 164) hx hb dL_areAlike_72 (by decide) (fun c_30 => absurd (rfl) c_30) (fun _ => ?_)
    refine lv_aload_n hx hb dL_areAlike_75 rfl (lv_at hl 2 rfl) ?_
    refine lv_iload hx hb dL_areAlike_76 (lv_at hl 0 rfl) ?_
    refine fw_callVi hx hb hml hown hts hE hw [.int (nI i)] [] (rd_toTakeBack (l := l) (D := D) (A := A) (sa := sa) hfl hI hH (show _ < S.1 by omega)) (cwV 1 hts gL_areAlike_X8_toTakeBack rfl rfl rfl (by decide +kernel) ⟨Nat.le_of_ble_eq_true rfl, Nat.le_of_ble_eq_true rfl⟩) (ci := 8) rfl rfl hH.x rfl hl.1 rfl (Nat.le_of_ble_eq_true rfl) dL_areAlike_78 ⟨by show 0 + 26 * i + 1 + 1 + 1 + 1 + 1 + 1 + 1 ≤ 118; omega, by show 0 + 156 * i + 6 + 6 + 6 + 6 + 6 + 6 + 6 ≤ 708; omega⟩ (fun r31 f32 H locs hp33 hw => ?_)
    obtain ⟨hp33a, hp33b⟩ := hp33
    rw [hp33b] at hw
    rw [hp33a]
    refine lv_aload_n hx hb dL_areAlike_81 rfl (lv_at hl 3 rfl) ?_
    refine lv_iload hx hb dL_areAlike_82 (lv_at hl 0 rfl) ?_
    refine fw_callVi hx hb hml hown hts hE hw [.int (nI i)] [.int (S.2.2.2.2 4 i 3)] (rd_toTakeBack (l := l) (D := D) (A := A) (sa := sa) hfl hI hG (show _ < S.1 by omega)) (cwV 1 hts gL_areAlike_X8_toTakeBack rfl rfl rfl (by decide +kernel) ⟨Nat.le_of_ble_eq_true rfl, Nat.le_of_ble_eq_true rfl⟩) (ci := 8) rfl rfl hG.x rfl hl.1 rfl (Nat.le_of_ble_eq_true rfl) dL_areAlike_84 ⟨by show 0 + 26 * i + 1 + 1 + 1 + 1 + 1 + 1 + 1 + 1 ≤ 118; omega, by show 0 + 156 * i + 6 + 6 + 6 + 6 + 6 + 6 + 6 + 6 ≤ 708; omega⟩ (fun r34 f35 H locs hp36 hw => ?_)
    obtain ⟨hp36a, hp36b⟩ := hp36
    rw [hp36b] at hw
    rw [hp36a]
    refine lv_icmp_ne (tgt := 164) hx hb dL_areAlike_87 (by decide) (fun c_37 => absurd (rfl) c_37) (fun _ => ?_)
    refine lv_aload_n hx hb dL_areAlike_90 rfl (lv_at hl 2 rfl) ?_
    refine lv_iload hx hb dL_areAlike_91 (lv_at hl 0 rfl) ?_
    refine fw_callVi hx hb hml hown hts hE hw [.int (nI i)] [] (rd_acknowledged (l := l) (D := D) (A := A) (sa := sa) hfl hI hH (show _ < S.1 by omega)) (cwV 1 hts gL_areAlike_X8_acknowledged rfl rfl rfl (by decide +kernel) ⟨Nat.le_of_ble_eq_true rfl, Nat.le_of_ble_eq_true rfl⟩) (ci := 8) rfl rfl hH.x rfl hl.1 rfl (Nat.le_of_ble_eq_true rfl) dL_areAlike_93 ⟨by show 0 + 26 * i + 1 + 1 + 1 + 1 + 1 + 1 + 1 + 1 + 1 ≤ 118; omega, by show 0 + 156 * i + 6 + 6 + 6 + 6 + 6 + 6 + 6 + 6 + 6 ≤ 708; omega⟩ (fun r38 f39 H locs hp40 hw => ?_)
    obtain ⟨hp40a, hp40b⟩ := hp40
    rw [hp40b] at hw
    rw [hp40a]
    refine lv_aload_n hx hb dL_areAlike_96 rfl (lv_at hl 3 rfl) ?_
    refine lv_iload hx hb dL_areAlike_97 (lv_at hl 0 rfl) ?_
    refine fw_callVi hx hb hml hown hts hE hw [.int (nI i)] [.int (S.2.2.2.2 4 i 1)] (rd_acknowledged (l := l) (D := D) (A := A) (sa := sa) hfl hI hG (show _ < S.1 by omega)) (cwV 1 hts gL_areAlike_X8_acknowledged rfl rfl rfl (by decide +kernel) ⟨Nat.le_of_ble_eq_true rfl, Nat.le_of_ble_eq_true rfl⟩) (ci := 8) rfl rfl hG.x rfl hl.1 rfl (Nat.le_of_ble_eq_true rfl) dL_areAlike_99 ⟨by show 0 + 26 * i + 1 + 1 + 1 + 1 + 1 + 1 + 1 + 1 + 1 + 1 ≤ 118; omega, by show 0 + 156 * i + 6 + 6 + 6 + 6 + 6 + 6 + 6 + 6 + 6 + 6 ≤ 708; omega⟩ (fun r41 f42 H locs hp43 hw => ?_)
    obtain ⟨hp43a, hp43b⟩ := hp43
    rw [hp43b] at hw
    rw [hp43a]
    refine lv_icmp_ne (tgt := 164) hx hb dL_areAlike_102 (by decide) (fun c_44 => absurd (rfl) c_44) (fun _ => ?_)
    refine lv_aload_n hx hb dL_areAlike_105 rfl (lv_at hl 2 rfl) ?_
    refine lv_iload hx hb dL_areAlike_106 (lv_at hl 0 rfl) ?_
    refine lv_iload_n hx hb dL_areAlike_108 rfl (lv_at hl 4 rfl) ?_
    refine fw_callVi hx hb hml hown hts hE hw [.int (nI i), .int (nI q)] [] (rd_due (l := l) (D := D) (A := A) (sa := sa) hfl hI hH (show _ < S.1 by omega) (k := q) (by omega)) (cwV 2 hts gL_areAlike_X8_due rfl rfl rfl (by decide +kernel) ⟨Nat.le_of_ble_eq_true rfl, Nat.le_of_ble_eq_true rfl⟩) (ci := 8) rfl rfl hH.x rfl hl.1 rfl (Nat.le_of_ble_eq_true rfl) dL_areAlike_109 ⟨by show 0 + 26 * i + 1 + 1 + 1 + 1 + 1 + 1 + 1 + 1 + 1 + 1 + 2 ≤ 118; omega, by show 0 + 156 * i + 6 + 6 + 6 + 6 + 6 + 6 + 6 + 6 + 6 + 6 + 12 ≤ 708; omega⟩ (fun r45 f46 H locs hp47 hw => ?_)
    obtain ⟨hp47a, hp47b⟩ := hp47
    rw [hp47b] at hw
    rw [hp47a]
    refine lv_aload_n hx hb dL_areAlike_112 rfl (lv_at hl 3 rfl) ?_
    refine lv_iload hx hb dL_areAlike_113 (lv_at hl 0 rfl) ?_
    refine lv_iload_n hx hb dL_areAlike_115 rfl (lv_at hl 4 rfl) ?_
    refine fw_callVi hx hb hml hown hts hE hw [.int (nI i), .int (nI q)] [.int (duC S.2.2.2.2 i (nI q) (nI q))] (rd_due (l := l) (D := D) (A := A) (sa := sa) hfl hI hG (show _ < S.1 by omega) (k := q) (by omega)) (cwV 2 hts gL_areAlike_X8_due rfl rfl rfl (by decide +kernel) ⟨Nat.le_of_ble_eq_true rfl, Nat.le_of_ble_eq_true rfl⟩) (ci := 8) rfl rfl hG.x rfl hl.1 rfl (Nat.le_of_ble_eq_true rfl) dL_areAlike_116 ⟨by show 0 + 26 * i + 1 + 1 + 1 + 1 + 1 + 1 + 1 + 1 + 1 + 1 + 2 + 2 ≤ 118; omega, by show 0 + 156 * i + 6 + 6 + 6 + 6 + 6 + 6 + 6 + 6 + 6 + 6 + 12 + 12 ≤ 708; omega⟩ (fun r48 f49 H locs hp50 hw => ?_)
    obtain ⟨hp50a, hp50b⟩ := hp50
    rw [hp50b] at hw
    rw [hp50a]
    refine lv_icmp_ne (tgt := 164) hx hb dL_areAlike_119 (by decide) (fun c_51 => absurd (rfl) c_51) (fun _ => ?_)
    refine lv_aload_n hx hb dL_areAlike_122 rfl (lv_at hl 2 rfl) ?_
    refine lv_iload hx hb dL_areAlike_123 (lv_at hl 0 rfl) ?_
    refine lv_iload_n hx hb dL_areAlike_125 rfl (lv_at hl 4 rfl) ?_
    refine lv_iconst (v := 0) hx hb dL_areAlike_126 (by decide) ?_
    refine fw_callVi hx hb hml hown hts hE hw [.int (nI i), .int (nI q), .int 0] [] (rd_slip (l := l) (D := D) (A := A) (sa := sa) hfl hI hH (show _ < S.1 by omega) (k := q) (by omega) (pt := 0) (by omega)) (cwV 3 hts gL_areAlike_X8_slip rfl rfl rfl (by decide +kernel) ⟨Nat.le_of_ble_eq_true rfl, Nat.le_of_ble_eq_true rfl⟩) (ci := 8) rfl rfl hH.x rfl hl.1 rfl (Nat.le_of_ble_eq_true rfl) dL_areAlike_127 ⟨by show 0 + 26 * i + 1 + 1 + 1 + 1 + 1 + 1 + 1 + 1 + 1 + 1 + 2 + 2 + 3 ≤ 118; omega, by show 0 + 156 * i + 6 + 6 + 6 + 6 + 6 + 6 + 6 + 6 + 6 + 6 + 12 + 12 + 18 ≤ 708; omega⟩ (fun r52 f53 H locs hp54 hw => ?_)
    obtain ⟨hp54a, hp54b⟩ := hp54
    rw [hp54b] at hw
    rw [hp54a]
    refine lv_aload_n hx hb dL_areAlike_130 rfl (lv_at hl 3 rfl) ?_
    refine lv_iload hx hb dL_areAlike_131 (lv_at hl 0 rfl) ?_
    refine lv_iload_n hx hb dL_areAlike_133 rfl (lv_at hl 4 rfl) ?_
    refine lv_iconst (v := 0) hx hb dL_areAlike_134 (by decide) ?_
    refine fw_callVi hx hb hml hown hts hE hw [.int (nI i), .int (nI q), .int 0] [.int (spC S.2.2.2.2 i q 0)] (rd_slip (l := l) (D := D) (A := A) (sa := sa) hfl hI hG (show _ < S.1 by omega) (k := q) (by omega) (pt := 0) (by omega)) (cwV 3 hts gL_areAlike_X8_slip rfl rfl rfl (by decide +kernel) ⟨Nat.le_of_ble_eq_true rfl, Nat.le_of_ble_eq_true rfl⟩) (ci := 8) rfl rfl hG.x rfl hl.1 rfl (Nat.le_of_ble_eq_true rfl) dL_areAlike_135 ⟨by show 0 + 26 * i + 1 + 1 + 1 + 1 + 1 + 1 + 1 + 1 + 1 + 1 + 2 + 2 + 3 + 3 ≤ 118; omega, by show 0 + 156 * i + 6 + 6 + 6 + 6 + 6 + 6 + 6 + 6 + 6 + 6 + 12 + 12 + 18 + 18 ≤ 708; omega⟩ (fun r55 f56 H locs hp57 hw => ?_)
    obtain ⟨hp57a, hp57b⟩ := hp57
    rw [hp57b] at hw
    rw [hp57a]
    refine lv_icmp_ne (tgt := 164) hx hb dL_areAlike_138 (by decide) (fun c_58 => absurd (rfl) c_58) (fun _ => ?_)
    refine lv_aload_n hx hb dL_areAlike_141 rfl (lv_at hl 2 rfl) ?_
    refine lv_iload hx hb dL_areAlike_142 (lv_at hl 0 rfl) ?_
    refine lv_iload_n hx hb dL_areAlike_144 rfl (lv_at hl 4 rfl) ?_
    refine lv_iconst (v := 2) hx hb dL_areAlike_145 (by decide) ?_
    refine fw_callVi hx hb hml hown hts hE hw [.int (nI i), .int (nI q), .int 2] [] (rd_slip (l := l) (D := D) (A := A) (sa := sa) hfl hI hH (show _ < S.1 by omega) (k := q) (by omega) (pt := 2) (by omega)) (cwV 3 hts gL_areAlike_X8_slip rfl rfl rfl (by decide +kernel) ⟨Nat.le_of_ble_eq_true rfl, Nat.le_of_ble_eq_true rfl⟩) (ci := 8) rfl rfl hH.x rfl hl.1 rfl (Nat.le_of_ble_eq_true rfl) dL_areAlike_146 ⟨by show 0 + 26 * i + 1 + 1 + 1 + 1 + 1 + 1 + 1 + 1 + 1 + 1 + 2 + 2 + 3 + 3 + 3 ≤ 118; omega, by show 0 + 156 * i + 6 + 6 + 6 + 6 + 6 + 6 + 6 + 6 + 6 + 6 + 12 + 12 + 18 + 18 + 18 ≤ 708; omega⟩ (fun r59 f60 H locs hp61 hw => ?_)
    obtain ⟨hp61a, hp61b⟩ := hp61
    rw [hp61b] at hw
    rw [hp61a]
    refine lv_aload_n hx hb dL_areAlike_149 rfl (lv_at hl 3 rfl) ?_
    refine lv_iload hx hb dL_areAlike_150 (lv_at hl 0 rfl) ?_
    refine lv_iload_n hx hb dL_areAlike_152 rfl (lv_at hl 4 rfl) ?_
    refine lv_iconst (v := 2) hx hb dL_areAlike_153 (by decide) ?_
    refine fw_callVi hx hb hml hown hts hE hw [.int (nI i), .int (nI q), .int 2] [.int (spC S.2.2.2.2 i q 2)] (rd_slip (l := l) (D := D) (A := A) (sa := sa) hfl hI hG (show _ < S.1 by omega) (k := q) (by omega) (pt := 2) (by omega)) (cwV 3 hts gL_areAlike_X8_slip rfl rfl rfl (by decide +kernel) ⟨Nat.le_of_ble_eq_true rfl, Nat.le_of_ble_eq_true rfl⟩) (ci := 8) rfl rfl hG.x rfl hl.1 rfl (Nat.le_of_ble_eq_true rfl) dL_areAlike_154 ⟨by show 0 + 26 * i + 1 + 1 + 1 + 1 + 1 + 1 + 1 + 1 + 1 + 1 + 2 + 2 + 3 + 3 + 3 + 3 ≤ 118; omega, by show 0 + 156 * i + 6 + 6 + 6 + 6 + 6 + 6 + 6 + 6 + 6 + 6 + 12 + 12 + 18 + 18 + 18 + 18 ≤ 708; omega⟩ (fun r62 f63 H locs hp64 hw => ?_)
    obtain ⟨hp64a, hp64b⟩ := hp64
    rw [hp64b] at hw
    rw [hp64a]
    refine lv_icmp_ne (tgt := 164) hx hb dL_areAlike_157 (by decide) (fun c_65 => absurd (rfl) c_65) (fun _ => ?_)
    refine lv_iconst (v := 1) hx hb dL_areAlike_160 (by decide) ?_
    refine lv_goto (tgt := 165) hx hb dL_areAlike_161 (by decide) ?_
    refine lv_istore_n (lv' := [(3, .int 1), (4, .int (nI i)), (0, .ref (α 0 0 0)), (1, .ref (β 0 0 0)), (2, .int (nI q))]) hx hb dL_areAlike_165 rfl hl (by decide) rfl (fun ls hl => ?_)
    refine lv_iinc (v := (nI (i + 1))) (lv' := [(4, .int (nI (i + 1))), (3, .int 1), (0, .ref (α 0 0 0)), (1, .ref (β 0 0 0)), (2, .int (nI q))]) hx hb dL_areAlike_166 hl (k := 1) rfl (nI_1 (i)) (by decide) rfl (fun ls hl => ?_)
    refine lv_goto (tgt := 20) hx hb dL_areAlike_169 (by decide) ?_
    refine W.widen (k := 0 + 26 * (i + 1)) (n := 0 + 156 * (i + 1)) (by omega) (by omega) ?_
    exact IH (i + 1) H locs ls (by omega) (by omega) hw (lv_sub hl [0, 1, 2, 3, 4] rfl)
  · obtain rfl : i = 3 := by omega
    refine lv_iload hx hb dL_areAlike_20 (lv_at hl 0 rfl) ?_
    refine lv_iconst (v := 3) hx hb dL_areAlike_22 (by decide) ?_
    refine lv_icmp_ge (tgt := 172) hx hb dL_areAlike_23 (by decide) (fun _ => ?_) (fun c_66 => absurd (show (3 : Int32) ≤ nI 3 from by decide) c_66)
    refine lv_iconst (v := 0) hx hb dL_areAlike_172 (by decide) ?_
    refine lv_istore (lv' := [(4, .int 0), (3, .int 1), (0, .ref (α 0 0 0)), (1, .ref (β 0 0 0)), (2, .int (nI q))]) hx hb dL_areAlike_173 hl (by decide) rfl (fun ls hl => ?_)
    refine W.widen (k := 78 + 2 * 0) (n := 468 + 12 * 0) (by omega) (by omega) ?_
    refine fw_loop 175 5 (fun i : Nat => 20 - i) (fun i : Nat => i ≤ 20) (fun _ => h) (fun i : Nat => [(4, .int (nI i)), (3, .int 1), (0, .ref (α 0 0 0)), (1, .ref (β 0 0 0)), (2, .int (nI q))]) (fun _ => []) (fun i : Nat => 78 + 2 * i) (fun i : Nat => 468 + 12 * i) (fun i H locs ls hP hw hl IH => ?_) 0 H locs ls (Nat.zero_le _) hw (lv_sub hl [0, 1, 2, 3, 4] rfl)
    rcases Nat.lt_or_ge i 20 with hi | hi
    · refine lv_iload hx hb dL_areAlike_175 (lv_at hl 0 rfl) ?_
      refine lv_bipush (v := 20) hx hb dL_areAlike_177 (by decide) ?_
      refine lv_icmp_ge (tgt := 215) hx hb dL_areAlike_179 (by decide) (fun c_67 => absurd c_67 (nI_ge hi (by decide))) (fun _ => ?_)
      refine lv_iload_n hx hb dL_areAlike_182 rfl (lv_at hl 1 rfl) ?_
      refine lv_if_eq (tgt := 215) hx hb dL_areAlike_183 (by decide) (fun c_68 => absurd c_68 (by decide)) (fun _ => ?_)
      refine lv_aload_n hx hb dL_areAlike_186 rfl (lv_at hl 2 rfl) ?_
      refine lv_iconst (v := 1) hx hb dL_areAlike_187 (by decide) ?_
      refine lv_iload hx hb dL_areAlike_188 (lv_at hl 0 rfl) ?_
      refine fw_callSH hx hb hml hown hts hE hw [.ref (α 0 0 0), .int 1, .int (nI i)] [] (c_L_looks_left l D A y sa h hfl α S i (by omega) hI hH) (vx_cwSW 3 hts gL_areAlike_L_looks rfl rfl rfl (by decide +kernel) ⟨Nat.le_of_ble_eq_true rfl, Nat.le_of_ble_eq_true rfl⟩) rfl hl.1 rfl (Nat.le_of_ble_eq_true rfl) dL_areAlike_190 ⟨by show 78 + 2 * i + 1 ≤ 118; omega, by show 468 + 12 * i + 6 ≤ 708; omega⟩ (fun r69 f70 H locs hp71 hw => ?_)
      obtain ⟨hp71a, hp71b⟩ := hp71
      rw [hp71b] at hw
      rw [hp71a]
      refine lv_aload_n hx hb dL_areAlike_193 rfl (lv_at hl 3 rfl) ?_
      refine lv_iconst (v := 1) hx hb dL_areAlike_194 (by decide) ?_
      refine lv_iload hx hb dL_areAlike_195 (lv_at hl 0 rfl) ?_
      refine fw_callSH hx hb hml hown hts hE hw [.ref (β 0 0 0), .int 1, .int (nI i)] [.int (leftF i S)] (c_L_looks_left l D A y sa h hfl β S i (by omega) hI hG) (vx_cwSW 3 hts gL_areAlike_L_looks rfl rfl rfl (by decide +kernel) ⟨Nat.le_of_ble_eq_true rfl, Nat.le_of_ble_eq_true rfl⟩) rfl hl.1 rfl (Nat.le_of_ble_eq_true rfl) dL_areAlike_197 ⟨by show 78 + 2 * i + 1 + 1 ≤ 118; omega, by show 468 + 12 * i + 6 + 6 ≤ 708; omega⟩ (fun r72 f73 H locs hp74 hw => ?_)
      obtain ⟨hp74a, hp74b⟩ := hp74
      rw [hp74b] at hw
      rw [hp74a]
      refine lv_icmp_ne (tgt := 207) hx hb dL_areAlike_200 (by decide) (fun c_75 => absurd (rfl) c_75) (fun _ => ?_)
      refine lv_iconst (v := 1) hx hb dL_areAlike_203 (by decide) ?_
      refine lv_goto (tgt := 208) hx hb dL_areAlike_204 (by decide) ?_
      refine lv_istore_n (lv' := [(3, .int 1), (4, .int (nI i)), (0, .ref (α 0 0 0)), (1, .ref (β 0 0 0)), (2, .int (nI q))]) hx hb dL_areAlike_208 rfl hl (by decide) rfl (fun ls hl => ?_)
      refine lv_iinc (v := (nI (i + 1))) (lv' := [(4, .int (nI (i + 1))), (3, .int 1), (0, .ref (α 0 0 0)), (1, .ref (β 0 0 0)), (2, .int (nI q))]) hx hb dL_areAlike_209 hl (k := 1) rfl (nI_1 (i)) (by decide) rfl (fun ls hl => ?_)
      refine lv_goto (tgt := 175) hx hb dL_areAlike_212 (by decide) ?_
      refine W.widen (k := 78 + 2 * (i + 1)) (n := 468 + 12 * (i + 1)) (by omega) (by omega) ?_
      exact IH (i + 1) H locs ls (by omega) (by omega) hw (lv_sub hl [0, 1, 2, 3, 4] rfl)
    · obtain rfl : i = 20 := by omega
      refine lv_iload hx hb dL_areAlike_175 (lv_at hl 0 rfl) ?_
      refine lv_bipush (v := 20) hx hb dL_areAlike_177 (by decide) ?_
      refine lv_icmp_ge (tgt := 215) hx hb dL_areAlike_179 (by decide) (fun _ => ?_) (fun c_76 => absurd (show (20 : Int32) ≤ nI 20 from by decide) c_76)
      refine lv_iload_n hx hb dL_areAlike_215 rfl (lv_at hl 1 rfl) ?_
      exact fw_zret hx hb hr hlocks hw (by omega) (by omega) (by decide +kernel) dL_areAlike_216 (⟨rfl, rfl⟩)
