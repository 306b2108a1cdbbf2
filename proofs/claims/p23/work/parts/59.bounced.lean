def bstp (S : pS) (e : Nat) (am : Int32) (S2 : pS) : Prop := (fillF (nI e) am S = none ∧ S2 = S) ∨ ∃ S1 r2, fillF (nI e) am S = some (nI S.2.2.1, S1) ∧ bncF (nI S.2.2.1) S1 = some (r2, S2)
set_option maxHeartbeats 4000000 in
set_option maxRecDepth 100000 in
/-- the law: a bounce is so -/
theorem c_L_isBouncedSo (l : Launch) (D : va_G) (A : Nat → Prop) (y : Nat → ClassId) (sa : Nat → Nat) (f g : fw_F) (hfl : l.stackTraces = false) (α β : Nat → Nat → Nat → Nat) (S : pS) (e9 : Nat) (am : Int32) (he9 : e9 < 3) (hd : fw_dis f g) (hN : nS S) (hI : IS S) (hR : RS y S α f) (hG : RS y S β g) (hB : bOK S e9 am) : Met l yL_isBouncedSo wsL_isBouncedSo ({ frames := 10, cells := 47, slots := 697, locals := 183 } : Room) (cPc D A y sa (fw_or f g) [.ref (α 0 0 0), .ref (β 0 0 0), .int (nI e9), .int am]) (cQi D A (fun r h1 => r = 1 ∧ ∃ S2, bstp S e9 am S2 ∧ two y S2 (α 0 0 0) (β 0 0 0) h1)) 47 697 A := by
  refine fw_met (by decide) rfl [.ref (α 0 0 0), .ref (β 0 0 0), .int (nI e9), .int am] (Nat.le_of_ble_eq_true rfl) ?_
  intro p e s m args below meth c ls I hin hE hw hl
  obtain ⟨hx, hb, hr, hts, hown, hlocks, hml⟩ := I
  have hown : s.vm.findClass RL = some m.cls := hown
  have hl : lv_has ls 9 [(0, .ref (α 0 0 0)), (1, .ref (β 0 0 0)), (2, .int (nI e9)), (3, .int am)] := hl
  have hH : RH y S α (fw_or f g) := RH.l hR hd
  refine lv_aload_n hx hb dL_isBouncedSo_0 rfl (lv_at hl 0 rfl) ?_
  refine lv_iload_n hx hb dL_isBouncedSo_1 rfl (lv_at hl 2 rfl) ?_
  refine fw_callVi hx hb hml hown hts hE hw [.int (nI e9)] [] (rd_pot (l := l) (D := D) (A := A) (sa := sa) hfl hI hH (i := e9) (by omega)) (cwV 1 hts gL_isBouncedSo_X8_pot rfl rfl rfl (by decide +kernel) ⟨Nat.le_of_ble_eq_true rfl, Nat.le_of_ble_eq_true rfl⟩) (ci := 8) rfl rfl hH.x rfl hl.1 rfl (Nat.le_of_ble_eq_true rfl) dL_isBouncedSo_2 ⟨Nat.le_of_ble_eq_true rfl, Nat.le_of_ble_eq_true rfl⟩ (fun r1 f2 H locs hp3 hw => ?_)
  obtain ⟨hp3a, hp3b⟩ := hp3
  rw [hp3b] at hw
  rw [hp3a]
  refine lv_istore (lv' := [(4, .int (S.2.2.2.2 1 e9 0)), (0, .ref (α 0 0 0)), (1, .ref (β 0 0 0)), (2, .int (nI e9)), (3, .int am)]) hx hb dL_isBouncedSo_5 hl (by decide) rfl (fun ls hl => ?_)
  refine lv_aload_n hx hb dL_isBouncedSo_7 rfl (lv_at hl 1 rfl) ?_
  refine lv_iload_n hx hb dL_isBouncedSo_8 rfl (lv_at hl 3 rfl) ?_
  refine fw_callVi hx hb hml hown hts hE hw [.int (nI e9)] [] (rd_shortage (l := l) (D := D) (A := A) (sa := sa) hfl hI hH (i := e9) (by omega)) (cwV 1 hts gL_isBouncedSo_X8_shortage rfl rfl rfl (by decide +kernel) ⟨Nat.le_of_ble_eq_true rfl, Nat.le_of_ble_eq_true rfl⟩) (ci := 8) rfl rfl hH.x rfl hl.1 rfl (Nat.le_of_ble_eq_true rfl) dL_isBouncedSo_9 ⟨Nat.le_of_ble_eq_true rfl, Nat.le_of_ble_eq_true rfl⟩ (fun r4 f5 H locs hp6 hw => ?_)
  obtain ⟨hp6a, hp6b⟩ := hp6
  rw [hp6b] at hw
  rw [hp6a]
  refine lv_istore (lv' := [(5, .int (S.2.2.2.2 1 e9 1)), (4, .int (S.2.2.2.2 1 e9 0)), (0, .ref (α 0 0 0)), (1, .ref (β 0 0 0)), (2, .int (nI e9)), (3, .int am)]) hx hb dL_isBouncedSo_12 hl (by decide) rfl (fun ls hl => ?_)
  rcases hB with hc | ⟨S1, r2, S2, hc, hc2, hc3, n40, hI1, hI2, hN1, hN2, b1, b2, b3, b4, b5⟩
  · refine lv_aload_n hx hb dL_isBouncedSo_14 rfl (lv_at hl 2 rfl) ?_
    refine lv_bipush (v := 6) hx hb dL_isBouncedSo_15 (by decide) ?_
    refine lv_iload_n hx hb dL_isBouncedSo_17 rfl (lv_at hl 4 rfl) ?_
    refine lv_iload_n hx hb dL_isBouncedSo_18 rfl (lv_at hl 5 rfl) ?_
    refine lv_iconst (v := 0) hx hb dL_isBouncedSo_19 (by decide) ?_
    refine lv_iconst (v := 0) hx hb dL_isBouncedSo_20 (by decide) ?_
    refine fw_callSH hx hb hml hown hts hE hw [.ref (α 0 0 0), .int 6, .int (nI e9), .int am, .int 0, .int 0] [] (met_L hd (fun A => c_L_does l D A y sa f hfl α S 6 (nI e9) am 0 0 hN hI hR)) (vx_cwSW 6 hts gL_isBouncedSo_L_does rfl rfl rfl (by decide +kernel) ⟨Nat.le_of_ble_eq_true rfl, Nat.le_of_ble_eq_true rfl⟩) rfl hl.1 rfl (Nat.le_of_ble_eq_true rfl) dL_isBouncedSo_21 ⟨Nat.le_of_ble_eq_true rfl, Nat.le_of_ble_eq_true rfl⟩ (fun r7 f8 H locs hp9 hw => ?_)
    obtain ⟨hp9a, hp9b⟩ := hp9.none (doesF_6.trans hc)
    rw [hp9b] at hw
    rw [hp9a]
    refine lv_istore (lv' := [(6, .int (-900000001)), (5, .int (S.2.2.2.2 1 e9 1)), (4, .int (S.2.2.2.2 1 e9 0)), (0, .ref (α 0 0 0)), (1, .ref (β 0 0 0)), (2, .int (nI e9)), (3, .int am)]) hx hb dL_isBouncedSo_24 hl (by decide) rfl (fun ls hl => ?_)
    refine lv_aload_n hx hb dL_isBouncedSo_26 rfl (lv_at hl 4 rfl) ?_
    refine lv_bipush (v := 6) hx hb dL_isBouncedSo_27 (by decide) ?_
    refine lv_iload_n hx hb dL_isBouncedSo_29 rfl (lv_at hl 5 rfl) ?_
    refine lv_iload_n hx hb dL_isBouncedSo_30 rfl (lv_at hl 6 rfl) ?_
    refine lv_iconst (v := 0) hx hb dL_isBouncedSo_31 (by decide) ?_
    refine lv_iconst (v := 0) hx hb dL_isBouncedSo_32 (by decide) ?_
    refine fw_callSH hx hb hml hown hts hE hw [.ref (β 0 0 0), .int 6, .int (nI e9), .int am, .int 0, .int 0] [] (met_R hd (fun A => c_L_does l D A y sa g hfl β S 6 (nI e9) am 0 0 hN hI hG)) (vx_cwSW 6 hts gL_isBouncedSo_L_does rfl rfl rfl (by decide +kernel) ⟨Nat.le_of_ble_eq_true rfl, Nat.le_of_ble_eq_true rfl⟩) rfl hl.1 rfl (Nat.le_of_ble_eq_true rfl) dL_isBouncedSo_33 ⟨Nat.le_of_ble_eq_true rfl, Nat.le_of_ble_eq_true rfl⟩ (fun r10 f11 H locs hp12 hw => ?_)
    obtain ⟨hp12a, hp12b⟩ := hp12.none (doesF_6.trans hc)
    rw [hp12b] at hw
    rw [hp12a]
    refine lv_iload hx hb dL_isBouncedSo_36 (lv_at hl 0 rfl) ?_
    refine lv_icmp_ne (tgt := 45) hx hb dL_isBouncedSo_38 (by decide) (fun c_13 => absurd c_13 (by decide)) (fun _ => ?_)
    refine lv_iconst (v := 1) hx hb dL_isBouncedSo_41 (by decide) ?_
    refine lv_goto (tgt := 46) hx hb dL_isBouncedSo_42 (by decide) ?_
    refine lv_istore (lv' := [(7, .int 1), (6, .int (-900000001)), (5, .int (S.2.2.2.2 1 e9 1)), (4, .int (S.2.2.2.2 1 e9 0)), (0, .ref (α 0 0 0)), (1, .ref (β 0 0 0)), (2, .int (nI e9)), (3, .int am)]) hx hb dL_isBouncedSo_46 hl (by decide) rfl (fun ls hl => ?_)
    refine lv_iload hx hb dL_isBouncedSo_48 (lv_at hl 1 rfl) ?_
    refine lv_if_ge (tgt := 74) hx hb dL_isBouncedSo_50 (by decide) (fun c_14 => absurd c_14 (by decide)) (fun _ => ?_)
    refine lv_iload hx hb dL_isBouncedSo_53 (lv_at hl 0 rfl) ?_
    refine lv_if_eq (tgt := 72) hx hb dL_isBouncedSo_55 (by decide) (fun c_15 => absurd c_15 (by decide)) (fun _ => ?_)
    refine lv_aload_n hx hb dL_isBouncedSo_58 rfl (lv_at hl 4 rfl) ?_
    refine lv_iload_n hx hb dL_isBouncedSo_59 rfl (lv_at hl 6 rfl) ?_
    refine fw_callVi hx hb hml hown hts hE hw [.int (nI e9)] [] (rd_pot (l := l) (D := D) (A := A) (sa := sa) hfl hI hH (i := e9) (by omega)) (cwV 1 hts gL_isBouncedSo_X8_pot rfl rfl rfl (by decide +kernel) ⟨Nat.le_of_ble_eq_true rfl, Nat.le_of_ble_eq_true rfl⟩) (ci := 8) rfl rfl hH.x rfl hl.1 rfl (Nat.le_of_ble_eq_true rfl) dL_isBouncedSo_60 ⟨Nat.le_of_ble_eq_true rfl, Nat.le_of_ble_eq_true rfl⟩ (fun r16 f17 H locs hp18 hw => ?_)
    obtain ⟨hp18a, hp18b⟩ := hp18
    rw [hp18b] at hw
    rw [hp18a]
    refine lv_iload hx hb dL_isBouncedSo_63 (lv_at hl 3 rfl) ?_
    refine lv_icmp_ne (tgt := 72) hx hb dL_isBouncedSo_65 (by decide) (fun c_19 => absurd (rfl) c_19) (fun _ => ?_)
    refine lv_iconst (v := 1) hx hb dL_isBouncedSo_68 (by decide) ?_
    refine lv_goto (tgt := 73) hx hb dL_isBouncedSo_69 (by decide) ?_
    exact fw_zret hx hb hr hlocks hw (Nat.le_of_ble_eq_true rfl) (Nat.le_of_ble_eq_true rfl) (by decide +kernel) dL_isBouncedSo_73 (⟨rfl, S, Or.inl ⟨hc, rfl⟩, α, β, f, g, rfl, rfl, hR, hG, hd, rfl⟩)
  · have ht : 0 ≤ nI S.2.2.1 := nI_pos' (by omega)
    refine lv_aload_n hx hb dL_isBouncedSo_14 rfl (lv_at hl 2 rfl) ?_
    refine lv_bipush (v := 6) hx hb dL_isBouncedSo_15 (by decide) ?_
    refine lv_iload_n hx hb dL_isBouncedSo_17 rfl (lv_at hl 4 rfl) ?_
    refine lv_iload_n hx hb dL_isBouncedSo_18 rfl (lv_at hl 5 rfl) ?_
    refine lv_iconst (v := 0) hx hb dL_isBouncedSo_19 (by decide) ?_
    refine lv_iconst (v := 0) hx hb dL_isBouncedSo_20 (by decide) ?_
    refine fw_callSH hx hb hml hown hts hE hw [.ref (α 0 0 0), .int 6, .int (nI e9), .int am, .int 0, .int 0] [] (met_L hd (fun A => c_L_does l D A y sa f hfl α S 6 (nI e9) am 0 0 hN hI hR)) (vx_cwSW 6 hts gL_isBouncedSo_L_does rfl rfl rfl (by decide +kernel) ⟨Nat.le_of_ble_eq_true rfl, Nat.le_of_ble_eq_true rfl⟩) rfl hl.1 rfl (Nat.le_of_ble_eq_true rfl) dL_isBouncedSo_21 ⟨Nat.le_of_ble_eq_true rfl, Nat.le_of_ble_eq_true rfl⟩ (fun r20 f21 H locs hp22 hw => ?_)
    obtain ⟨hp22a, f1, α2, hp22b, hd1, hα, hR1⟩ := hp22.some (doesF_6.trans hc)
    rw [hp22b] at hw
    rw [hp22a]
    refine lv_istore (lv' := [(6, .int (nI S.2.2.1)), (5, .int (S.2.2.2.2 1 e9 1)), (4, .int (S.2.2.2.2 1 e9 0)), (0, .ref (α 0 0 0)), (1, .ref (β 0 0 0)), (2, .int (nI e9)), (3, .int am)]) hx hb dL_isBouncedSo_24 hl (by decide) rfl (fun ls hl => ?_)
    refine lv_aload_n hx hb dL_isBouncedSo_26 rfl (lv_at hl 4 rfl) ?_
    refine lv_bipush (v := 6) hx hb dL_isBouncedSo_27 (by decide) ?_
    refine lv_iload_n hx hb dL_isBouncedSo_29 rfl (lv_at hl 5 rfl) ?_
    refine lv_iload_n hx hb dL_isBouncedSo_30 rfl (lv_at hl 6 rfl) ?_
    refine lv_iconst (v := 0) hx hb dL_isBouncedSo_31 (by decide) ?_
    refine lv_iconst (v := 0) hx hb dL_isBouncedSo_32 (by decide) ?_
    refine fw_callSH hx hb hml hown hts hE hw [.ref (β 0 0 0), .int 6, .int (nI e9), .int am, .int 0, .int 0] [] (met_R hd1 (fun A => c_L_does l D A y sa g hfl β S 6 (nI e9) am 0 0 hN hI hG)) (vx_cwSW 6 hts gL_isBouncedSo_L_does rfl rfl rfl (by decide +kernel) ⟨Nat.le_of_ble_eq_true rfl, Nat.le_of_ble_eq_true rfl⟩) rfl hl.1 rfl (Nat.le_of_ble_eq_true rfl) dL_isBouncedSo_33 ⟨Nat.le_of_ble_eq_true rfl, Nat.le_of_ble_eq_true rfl⟩ (fun r23 f24 H locs hp25 hw => ?_)
    obtain ⟨hp25a, g1, β2, hp25b, hd2, hβ, hG1⟩ := hp25.some (doesF_6.trans hc)
    rw [hp25b] at hw
    rw [hp25a]
    have hl : lv_has ls 9 [(6, .int (nI S.2.2.1)), (5, .int (S.2.2.2.2 1 e9 1)), (4, .int (S.2.2.2.2 1 e9 0)), (0, .ref (α2 0 0 0)), (1, .ref (β2 0 0 0)), (2, .int (nI e9)), (3, .int am)] := by rw [hα, hβ]; exact hl
    have hH1 : RH y S1 α2 (fw_or f1 g1) := RH.l hR1 hd2
    refine lv_iload hx hb dL_isBouncedSo_36 (lv_at hl 0 rfl) ?_
    refine lv_icmp_ne (tgt := 45) hx hb dL_isBouncedSo_38 (by decide) (fun c_26 => absurd (rfl) c_26) (fun _ => ?_)
    refine lv_iconst (v := 1) hx hb dL_isBouncedSo_41 (by decide) ?_
    refine lv_goto (tgt := 46) hx hb dL_isBouncedSo_42 (by decide) ?_
    refine lv_istore (lv' := [(7, .int 1), (6, .int (nI S.2.2.1)), (5, .int (S.2.2.2.2 1 e9 1)), (4, .int (S.2.2.2.2 1 e9 0)), (0, .ref (α2 0 0 0)), (1, .ref (β2 0 0 0)), (2, .int (nI e9)), (3, .int am)]) hx hb dL_isBouncedSo_46 hl (by decide) rfl (fun ls hl => ?_)
    refine lv_iload hx hb dL_isBouncedSo_48 (lv_at hl 1 rfl) ?_
    refine lv_if_ge (tgt := 74) hx hb dL_isBouncedSo_50 (by decide) (fun _ => ?_) (fun c_27 => absurd (ht) c_27)
    refine lv_iload hx hb dL_isBouncedSo_74 (lv_at hl 0 rfl) ?_
    refine lv_if_eq (tgt := 131) hx hb dL_isBouncedSo_76 (by decide) (fun c_28 => absurd c_28 (by decide)) (fun _ => ?_)
    refine lv_aload_n hx hb dL_isBouncedSo_79 rfl (lv_at hl 4 rfl) ?_
    refine lv_iload_n hx hb dL_isBouncedSo_80 rfl (lv_at hl 6 rfl) ?_
    refine fw_callVi hx hb hml hown hts hE hw [.int (nI e9)] [] (rd_pot (l := l) (D := D) (A := A) (sa := sa) hfl hI1 hH1 (i := e9) (by omega)) (cwV 1 hts gL_isBouncedSo_X8_pot rfl rfl rfl (by decide +kernel) ⟨Nat.le_of_ble_eq_true rfl, Nat.le_of_ble_eq_true rfl⟩) (ci := 8) rfl rfl hH1.x rfl hl.1 rfl (Nat.le_of_ble_eq_true rfl) dL_isBouncedSo_81 ⟨Nat.le_of_ble_eq_true rfl, Nat.le_of_ble_eq_true rfl⟩ (fun r29 f30 H locs hp31 hw => ?_)
    obtain ⟨hp31a, hp31b⟩ := hp31
    rw [hp31b] at hw
    rw [hp31a]
    refine lv_aload_n hx hb dL_isBouncedSo_84 rfl (lv_at hl 4 rfl) ?_
    refine lv_iload_n hx hb dL_isBouncedSo_85 rfl (lv_at hl 6 rfl) ?_
    refine fw_callVi hx hb hml hown hts hE hw [.int (nI e9)] [.int (S1.2.2.2.2 1 e9 0)] (rd_shortage (l := l) (D := D) (A := A) (sa := sa) hfl hI1 hH1 (i := e9) (by omega)) (cwV 1 hts gL_isBouncedSo_X8_shortage rfl rfl rfl (by decide +kernel) ⟨Nat.le_of_ble_eq_true rfl, Nat.le_of_ble_eq_true rfl⟩) (ci := 8) rfl rfl hH1.x rfl hl.1 rfl (Nat.le_of_ble_eq_true rfl) dL_isBouncedSo_86 ⟨Nat.le_of_ble_eq_true rfl, Nat.le_of_ble_eq_true rfl⟩ (fun r32 f33 H locs hp34 hw => ?_)
    obtain ⟨hp34a, hp34b⟩ := hp34
    rw [hp34b] at hw
    rw [hp34a]
    refine lv_isub hx hb dL_isBouncedSo_89 ?_
    refine lv_iload hx hb dL_isBouncedSo_90 (lv_at hl 3 rfl) ?_
    refine lv_iload hx hb dL_isBouncedSo_92 (lv_at hl 2 rfl) ?_
    refine lv_isub hx hb dL_isBouncedSo_94 ?_
    refine lv_iload_n hx hb dL_isBouncedSo_95 rfl (lv_at hl 7 rfl) ?_
    refine lv_iadd hx hb dL_isBouncedSo_96 ?_
    refine lv_icmp_ne (tgt := 131) hx hb dL_isBouncedSo_97 (by decide) (fun c_35 => absurd (b1) c_35) (fun _ => ?_)
    rcases Decidable.em (am < S.2.2.2.2 1 e9 1) with hlt | hlt
    · refine lv_iload_n hx hb dL_isBouncedSo_100 rfl (lv_at hl 7 rfl) ?_
      refine lv_iload hx hb dL_isBouncedSo_101 (lv_at hl 2 rfl) ?_
      refine lv_icmp_lt (tgt := 117) hx hb dL_isBouncedSo_103 (by decide) (fun _ => ?_) (fun c_36 => absurd (hlt) c_36)
      refine lv_aload_n hx hb dL_isBouncedSo_117 rfl (lv_at hl 4 rfl) ?_
      refine lv_iload_n hx hb dL_isBouncedSo_118 rfl (lv_at hl 6 rfl) ?_
      refine fw_callVi hx hb hml hown hts hE hw [.int (nI e9)] [] (rd_pot (l := l) (D := D) (A := A) (sa := sa) hfl hI1 hH1 (i := e9) (by omega)) (cwV 1 hts gL_isBouncedSo_X8_pot rfl rfl rfl (by decide +kernel) ⟨Nat.le_of_ble_eq_true rfl, Nat.le_of_ble_eq_true rfl⟩) (ci := 8) rfl rfl hH1.x rfl hl.1 rfl (Nat.le_of_ble_eq_true rfl) dL_isBouncedSo_119 ⟨Nat.le_of_ble_eq_true rfl, Nat.le_of_ble_eq_true rfl⟩ (fun r37 f38 H locs hp39 hw => ?_)
      obtain ⟨hp39a, hp39b⟩ := hp39
      rw [hp39b] at hw
      rw [hp39a]
      refine lv_iload hx hb dL_isBouncedSo_122 (lv_at hl 3 rfl) ?_
      refine lv_icmp_ne (tgt := 131) hx hb dL_isBouncedSo_124 (by decide) (fun c_40 => absurd (b3 hlt) c_40) (fun _ => ?_)
      refine lv_iconst (v := 1) hx hb dL_isBouncedSo_127 (by decide) ?_
      refine lv_goto (tgt := 132) hx hb dL_isBouncedSo_128 (by decide) ?_
      refine lv_istore (lv' := [(7, .int 1), (6, .int (nI S.2.2.1)), (5, .int (S.2.2.2.2 1 e9 1)), (4, .int (S.2.2.2.2 1 e9 0)), (0, .ref (α2 0 0 0)), (1, .ref (β2 0 0 0)), (2, .int (nI e9)), (3, .int am)]) hx hb dL_isBouncedSo_132 hl (by decide) rfl (fun ls hl => ?_)
      refine lv_aload_n hx hb dL_isBouncedSo_134 rfl (lv_at hl 4 rfl) ?_
      refine lv_bipush (v := 7) hx hb dL_isBouncedSo_135 (by decide) ?_
      refine lv_iload hx hb dL_isBouncedSo_137 (lv_at hl 1 rfl) ?_
      refine lv_iconst (v := 0) hx hb dL_isBouncedSo_139 (by decide) ?_
      refine lv_iconst (v := 0) hx hb dL_isBouncedSo_140 (by decide) ?_
      refine lv_iconst (v := 0) hx hb dL_isBouncedSo_141 (by decide) ?_
      refine fw_callSH hx hb hml hown hts hE hw [.ref (α2 0 0 0), .int 7, .int (nI S.2.2.1), .int 0, .int 0, .int 0] [] (met_L hd2 (fun A => c_L_does l D A y sa f1 hfl α2 S1 7 (nI S.2.2.1) 0 0 0 hN1 hI1 hR1)) (vx_cwSW 6 hts gL_isBouncedSo_L_does rfl rfl rfl (by decide +kernel) ⟨Nat.le_of_ble_eq_true rfl, Nat.le_of_ble_eq_true rfl⟩) rfl hl.1 rfl (Nat.le_of_ble_eq_true rfl) dL_isBouncedSo_142 ⟨Nat.le_of_ble_eq_true rfl, Nat.le_of_ble_eq_true rfl⟩ (fun r41 f42 H locs hp43 hw => ?_)
      obtain ⟨hp43a, f2, α3, hp43b, hd3, hα2, hR2⟩ := hp43.some (doesF_7.trans hc2)
      rw [hp43b] at hw
      rw [hp43a]
      refine lv_istore (lv' := [(8, .int r2), (7, .int 1), (6, .int (nI S.2.2.1)), (5, .int (S.2.2.2.2 1 e9 1)), (4, .int (S.2.2.2.2 1 e9 0)), (0, .ref (α2 0 0 0)), (1, .ref (β2 0 0 0)), (2, .int (nI e9)), (3, .int am)]) hx hb dL_isBouncedSo_145 hl (by decide) rfl (fun ls hl => ?_)
      refine lv_iload hx hb dL_isBouncedSo_147 (lv_at hl 1 rfl) ?_
      refine lv_if_eq (tgt := 214) hx hb dL_isBouncedSo_149 (by decide) (fun c_44 => absurd c_44 (by decide)) (fun _ => ?_)
      refine lv_aload_n hx hb dL_isBouncedSo_152 rfl (lv_at hl 6 rfl) ?_
      refine lv_bipush (v := 7) hx hb dL_isBouncedSo_153 (by decide) ?_
      refine lv_iload hx hb dL_isBouncedSo_155 (lv_at hl 2 rfl) ?_
      refine lv_iconst (v := 0) hx hb dL_isBouncedSo_157 (by decide) ?_
      refine lv_iconst (v := 0) hx hb dL_isBouncedSo_158 (by decide) ?_
      refine lv_iconst (v := 0) hx hb dL_isBouncedSo_159 (by decide) ?_
      refine fw_callSH hx hb hml hown hts hE hw [.ref (β2 0 0 0), .int 7, .int (nI S.2.2.1), .int 0, .int 0, .int 0] [] (met_R hd3 (fun A => c_L_does l D A y sa g1 hfl β2 S1 7 (nI S.2.2.1) 0 0 0 hN1 hI1 hG1)) (vx_cwSW 6 hts gL_isBouncedSo_L_does rfl rfl rfl (by decide +kernel) ⟨Nat.le_of_ble_eq_true rfl, Nat.le_of_ble_eq_true rfl⟩) rfl hl.1 rfl (Nat.le_of_ble_eq_true rfl) dL_isBouncedSo_160 ⟨Nat.le_of_ble_eq_true rfl, Nat.le_of_ble_eq_true rfl⟩ (fun r45 f46 H locs hp47 hw => ?_)
      obtain ⟨hp47a, g2, β3, hp47b, hd4, hβ2, hG2⟩ := hp47.some (doesF_7.trans hc2)
      rw [hp47b] at hw
      rw [hp47a]
      have hl : lv_has ls 9 [(8, .int r2), (7, .int 1), (6, .int (nI S.2.2.1)), (5, .int (S.2.2.2.2 1 e9 1)), (4, .int (S.2.2.2.2 1 e9 0)), (0, .ref (α3 0 0 0)), (1, .ref (β3 0 0 0)), (2, .int (nI e9)), (3, .int am)] := by rw [hα2, hβ2]; exact hl
      have hH2 : RH y S2 α3 (fw_or f2 g2) := RH.l hR2 hd4
      refine lv_iload hx hb dL_isBouncedSo_163 (lv_at hl 0 rfl) ?_
      refine lv_icmp_ne (tgt := 214) hx hb dL_isBouncedSo_165 (by decide) (fun c_48 => absurd (rfl) c_48) (fun _ => ?_)
      refine lv_iload hx hb dL_isBouncedSo_168 (lv_at hl 0 rfl) ?_
      refine lv_aload_n hx hb dL_isBouncedSo_170 rfl (lv_at hl 5 rfl) ?_
      refine lv_iload_n hx hb dL_isBouncedSo_171 rfl (lv_at hl 7 rfl) ?_
      refine fw_callVi hx hb hml hown hts hE hw [.int (nI e9)] [.int r2] (rd_shortage (l := l) (D := D) (A := A) (sa := sa) hfl hI2 hH2 (i := e9) (by omega)) (cwV 1 hts gL_isBouncedSo_X8_shortage rfl rfl rfl (by decide +kernel) ⟨Nat.le_of_ble_eq_true rfl, Nat.le_of_ble_eq_true rfl⟩) (ci := 8) rfl rfl hH2.x rfl hl.1 rfl (Nat.le_of_ble_eq_true rfl) dL_isBouncedSo_172 ⟨Nat.le_of_ble_eq_true rfl, Nat.le_of_ble_eq_true rfl⟩ (fun r49 f50 H locs hp51 hw => ?_)
      obtain ⟨hp51a, hp51b⟩ := hp51
      rw [hp51b] at hw
      rw [hp51a]
      refine lv_icmp_ne (tgt := 214) hx hb dL_isBouncedSo_175 (by decide) (fun c_52 => absurd (b4) c_52) (fun _ => ?_)
      refine lv_aload_n hx hb dL_isBouncedSo_178 rfl (lv_at hl 5 rfl) ?_
      refine lv_iload_n hx hb dL_isBouncedSo_179 rfl (lv_at hl 7 rfl) ?_
      refine fw_callVi hx hb hml hown hts hE hw [.int (nI e9)] [] (rd_pot (l := l) (D := D) (A := A) (sa := sa) hfl hI2 hH2 (i := e9) (by omega)) (cwV 1 hts gL_isBouncedSo_X8_pot rfl rfl rfl (by decide +kernel) ⟨Nat.le_of_ble_eq_true rfl, Nat.le_of_ble_eq_true rfl⟩) (ci := 8) rfl rfl hH2.x rfl hl.1 rfl (Nat.le_of_ble_eq_true rfl) dL_isBouncedSo_180 ⟨Nat.le_of_ble_eq_true rfl, Nat.le_of_ble_eq_true rfl⟩ (fun r53 f54 H locs hp55 hw => ?_)
      obtain ⟨hp55a, hp55b⟩ := hp55
      rw [hp55b] at hw
      rw [hp55a]
      refine lv_iload hx hb dL_isBouncedSo_183 (lv_at hl 0 rfl) ?_
      refine lv_isub hx hb dL_isBouncedSo_185 ?_
      refine lv_iload hx hb dL_isBouncedSo_186 (lv_at hl 4 rfl) ?_
      refine lv_iload hx hb dL_isBouncedSo_188 (lv_at hl 3 rfl) ?_
      refine lv_isub hx hb dL_isBouncedSo_190 ?_
      refine lv_icmp_ne (tgt := 214) hx hb dL_isBouncedSo_191 (by decide) (fun c_56 => absurd (b5) c_56) (fun _ => ?_)
      refine lv_aload_n hx hb dL_isBouncedSo_194 rfl (lv_at hl 5 rfl) ?_
      refine lv_bipush (v := 7) hx hb dL_isBouncedSo_195 (by decide) ?_
      refine lv_iload hx hb dL_isBouncedSo_197 (lv_at hl 2 rfl) ?_
      refine lv_iconst (v := 0) hx hb dL_isBouncedSo_199 (by decide) ?_
      refine lv_iconst (v := 0) hx hb dL_isBouncedSo_200 (by decide) ?_
      refine lv_iconst (v := 0) hx hb dL_isBouncedSo_201 (by decide) ?_
      refine fw_callSH hx hb hml hown hts hE hw [.ref (α3 0 0 0), .int 7, .int (nI S.2.2.1), .int 0, .int 0, .int 0] [] (met_L hd4 (fun A => c_L_does l D A y sa f2 hfl α3 S2 7 (nI S.2.2.1) 0 0 0 hN2 hI2 hR2)) (vx_cwSW 6 hts gL_isBouncedSo_L_does rfl rfl rfl (by decide +kernel) ⟨Nat.le_of_ble_eq_true rfl, Nat.le_of_ble_eq_true rfl⟩) rfl hl.1 rfl (Nat.le_of_ble_eq_true rfl) dL_isBouncedSo_202 ⟨Nat.le_of_ble_eq_true rfl, Nat.le_of_ble_eq_true rfl⟩ (fun r57 f58 H locs hp59 hw => ?_)
      obtain ⟨hp59a, hp59b⟩ := hp59.none (doesF_7.trans hc3)
      rw [hp59b] at hw
      rw [hp59a]
      refine lv_ldc (own := RL) (v := -900000001) hx hb hown (hts (.constant RL 44 (-900000001)) (by decide +kernel)) dL_isBouncedSo_205 ?_
      refine lv_icmp_ne (tgt := 214) hx hb dL_isBouncedSo_207 (by decide) (fun c_60 => absurd c_60 (by decide)) (fun _ => ?_)
      refine lv_iconst (v := 1) hx hb dL_isBouncedSo_210 (by decide) ?_
      refine lv_goto (tgt := 215) hx hb dL_isBouncedSo_211 (by decide) ?_
      exact fw_zret hx hb hr hlocks hw (Nat.le_of_ble_eq_true rfl) (Nat.le_of_ble_eq_true rfl) (by decide +kernel) dL_isBouncedSo_215 (⟨rfl, S2, Or.inr ⟨S1, r2, hc, hc2⟩, α3, β3, f2, g2, hα2.trans hα, hβ2.trans hβ, hR2, hG2, hd4, rfl⟩)
    · refine lv_iload_n hx hb dL_isBouncedSo_100 rfl (lv_at hl 7 rfl) ?_
      refine lv_iload hx hb dL_isBouncedSo_101 (lv_at hl 2 rfl) ?_
      refine lv_icmp_lt (tgt := 117) hx hb dL_isBouncedSo_103 (by decide) (fun c_61 => absurd c_61 (hlt)) (fun _ => ?_)
      refine lv_aload_n hx hb dL_isBouncedSo_106 rfl (lv_at hl 4 rfl) ?_
      refine lv_iload_n hx hb dL_isBouncedSo_107 rfl (lv_at hl 6 rfl) ?_
      refine fw_callVi hx hb hml hown hts hE hw [.int (nI e9)] [] (rd_shortage (l := l) (D := D) (A := A) (sa := sa) hfl hI1 hH1 (i := e9) (by omega)) (cwV 1 hts gL_isBouncedSo_X8_shortage rfl rfl rfl (by decide +kernel) ⟨Nat.le_of_ble_eq_true rfl, Nat.le_of_ble_eq_true rfl⟩) (ci := 8) rfl rfl hH1.x rfl hl.1 rfl (Nat.le_of_ble_eq_true rfl) dL_isBouncedSo_108 ⟨Nat.le_of_ble_eq_true rfl, Nat.le_of_ble_eq_true rfl⟩ (fun r62 f63 H locs hp64 hw => ?_)
      obtain ⟨hp64a, hp64b⟩ := hp64
      rw [hp64b] at hw
      rw [hp64a]
      refine lv_if_ne (tgt := 131) hx hb dL_isBouncedSo_111 (by decide) (fun c_65 => absurd (b2 hlt) c_65) (fun _ => ?_)
      refine lv_goto (tgt := 127) hx hb dL_isBouncedSo_114 (by decide) ?_
      refine lv_iconst (v := 1) hx hb dL_isBouncedSo_127 (by decide) ?_
      refine lv_goto (tgt := 132) hx hb dL_isBouncedSo_128 (by decide) ?_
      refine lv_istore (lv' := [(7, .int 1), (6, .int (nI S.2.2.1)), (5, .int (S.2.2.2.2 1 e9 1)), (4, .int (S.2.2.2.2 1 e9 0)), (0, .ref (α2 0 0 0)), (1, .ref (β2 0 0 0)), (2, .int (nI e9)), (3, .int am)]) hx hb dL_isBouncedSo_132 hl (by decide) rfl (fun ls hl => ?_)
      refine lv_aload_n hx hb dL_isBouncedSo_134 rfl (lv_at hl 4 rfl) ?_
      refine lv_bipush (v := 7) hx hb dL_isBouncedSo_135 (by decide) ?_
      refine lv_iload hx hb dL_isBouncedSo_137 (lv_at hl 1 rfl) ?_
      refine lv_iconst (v := 0) hx hb dL_isBouncedSo_139 (by decide) ?_
      refine lv_iconst (v := 0) hx hb dL_isBouncedSo_140 (by decide) ?_
      refine lv_iconst (v := 0) hx hb dL_isBouncedSo_141 (by decide) ?_
      refine fw_callSH hx hb hml hown hts hE hw [.ref (α2 0 0 0), .int 7, .int (nI S.2.2.1), .int 0, .int 0, .int 0] [] (met_L hd2 (fun A => c_L_does l D A y sa f1 hfl α2 S1 7 (nI S.2.2.1) 0 0 0 hN1 hI1 hR1)) (vx_cwSW 6 hts gL_isBouncedSo_L_does rfl rfl rfl (by decide +kernel) ⟨Nat.le_of_ble_eq_true rfl, Nat.le_of_ble_eq_true rfl⟩) rfl hl.1 rfl (Nat.le_of_ble_eq_true rfl) dL_isBouncedSo_142 ⟨Nat.le_of_ble_eq_true rfl, Nat.le_of_ble_eq_true rfl⟩ (fun r66 f67 H locs hp68 hw => ?_)
      obtain ⟨hp68a, f2, α3, hp68b, hd3, hα2, hR2⟩ := hp68.some (doesF_7.trans hc2)
      rw [hp68b] at hw
      rw [hp68a]
      refine lv_istore (lv' := [(8, .int r2), (7, .int 1), (6, .int (nI S.2.2.1)), (5, .int (S.2.2.2.2 1 e9 1)), (4, .int (S.2.2.2.2 1 e9 0)), (0, .ref (α2 0 0 0)), (1, .ref (β2 0 0 0)), (2, .int (nI e9)), (3, .int am)]) hx hb dL_isBouncedSo_145 hl (by decide) rfl (fun ls hl => ?_)
      refine lv_iload hx hb dL_isBouncedSo_147 (lv_at hl 1 rfl) ?_
      refine lv_if_eq (tgt := 214) hx hb dL_isBouncedSo_149 (by decide) (fun c_69 => absurd c_69 (by decide)) (fun _ => ?_)
      refine lv_aload_n hx hb dL_isBouncedSo_152 rfl (lv_at hl 6 rfl) ?_
      refine lv_bipush (v := 7) hx hb dL_isBouncedSo_153 (by decide) ?_
      refine lv_iload hx hb dL_isBouncedSo_155 (lv_at hl 2 rfl) ?_
      refine lv_iconst (v := 0) hx hb dL_isBouncedSo_157 (by decide) ?_
      refine lv_iconst (v := 0) hx hb dL_isBouncedSo_158 (by decide) ?_
      refine lv_iconst (v := 0) hx hb dL_isBouncedSo_159 (by decide) ?_
      refine fw_callSH hx hb hml hown hts hE hw [.ref (β2 0 0 0), .int 7, .int (nI S.2.2.1), .int 0, .int 0, .int 0] [] (met_R hd3 (fun A => c_L_does l D A y sa g1 hfl β2 S1 7 (nI S.2.2.1) 0 0 0 hN1 hI1 hG1)) (vx_cwSW 6 hts gL_isBouncedSo_L_does rfl rfl rfl (by decide +kernel) ⟨Nat.le_of_ble_eq_true rfl, Nat.le_of_ble_eq_true rfl⟩) rfl hl.1 rfl (Nat.le_of_ble_eq_true rfl) dL_isBouncedSo_160 ⟨Nat.le_of_ble_eq_true rfl, Nat.le_of_ble_eq_true rfl⟩ (fun r70 f71 H locs hp72 hw => ?_)
      obtain ⟨hp72a, g2, β3, hp72b, hd4, hβ2, hG2⟩ := hp72.some (doesF_7.trans hc2)
      rw [hp72b] at hw
      rw [hp72a]
      have hl : lv_has ls 9 [(8, .int r2), (7, .int 1), (6, .int (nI S.2.2.1)), (5, .int (S.2.2.2.2 1 e9 1)), (4, .int (S.2.2.2.2 1 e9 0)), (0, .ref (α3 0 0 0)), (1, .ref (β3 0 0 0)), (2, .int (nI e9)), (3, .int am)] := by rw [hα2, hβ2]; exact hl
      have hH2 : RH y S2 α3 (fw_or f2 g2) := RH.l hR2 hd4
      refine lv_iload hx hb dL_isBouncedSo_163 (lv_at hl 0 rfl) ?_
      refine lv_icmp_ne (tgt := 214) hx hb dL_isBouncedSo_165 (by decide) (fun c_73 => absurd (rfl) c_73) (fun _ => ?_)
      refine lv_iload hx hb dL_isBouncedSo_168 (lv_at hl 0 rfl) ?_
      refine lv_aload_n hx hb dL_isBouncedSo_170 rfl (lv_at hl 5 rfl) ?_
      refine lv_iload_n hx hb dL_isBouncedSo_171 rfl (lv_at hl 7 rfl) ?_
      refine fw_callVi hx hb hml hown hts hE hw [.int (nI e9)] [.int r2] (rd_shortage (l := l) (D := D) (A := A) (sa := sa) hfl hI2 hH2 (i := e9) (by omega)) (cwV 1 hts gL_isBouncedSo_X8_shortage rfl rfl rfl (by decide +kernel) ⟨Nat.le_of_ble_eq_true rfl, Nat.le_of_ble_eq_true rfl⟩) (ci := 8) rfl rfl hH2.x rfl hl.1 rfl (Nat.le_of_ble_eq_true rfl) dL_isBouncedSo_172 ⟨Nat.le_of_ble_eq_true rfl, Nat.le_of_ble_eq_true rfl⟩ (fun r74 f75 H locs hp76 hw => ?_)
      obtain ⟨hp76a, hp76b⟩ := hp76
      rw [hp76b] at hw
      rw [hp76a]
      refine lv_icmp_ne (tgt := 214) hx hb dL_isBouncedSo_175 (by decide) (fun c_77 => absurd (b4) c_77) (fun _ => ?_)
      refine lv_aload_n hx hb dL_isBouncedSo_178 rfl (lv_at hl 5 rfl) ?_
      refine lv_iload_n hx hb dL_isBouncedSo_179 rfl (lv_at hl 7 rfl) ?_
      refine fw_callVi hx hb hml hown hts hE hw [.int (nI e9)] [] (rd_pot (l := l) (D := D) (A := A) (sa := sa) hfl hI2 hH2 (i := e9) (by omega)) (cwV 1 hts gL_isBouncedSo_X8_pot rfl rfl rfl (by decide +kernel) ⟨Nat.le_of_ble_eq_true rfl, Nat.le_of_ble_eq_true rfl⟩) (ci := 8) rfl rfl hH2.x rfl hl.1 rfl (Nat.le_of_ble_eq_true rfl) dL_isBouncedSo_180 ⟨Nat.le_of_ble_eq_true rfl, Nat.le_of_ble_eq_true rfl⟩ (fun r78 f79 H locs hp80 hw => ?_)
      obtain ⟨hp80a, hp80b⟩ := hp80
      rw [hp80b] at hw
      rw [hp80a]
      refine lv_iload hx hb dL_isBouncedSo_183 (lv_at hl 0 rfl) ?_
      refine lv_isub hx hb dL_isBouncedSo_185 ?_
      refine lv_iload hx hb dL_isBouncedSo_186 (lv_at hl 4 rfl) ?_
      refine lv_iload hx hb dL_isBouncedSo_188 (lv_at hl 3 rfl) ?_
      refine lv_isub hx hb dL_isBouncedSo_190 ?_
      refine lv_icmp_ne (tgt := 214) hx hb dL_isBouncedSo_191 (by decide) (fun c_81 => absurd (b5) c_81) (fun _ => ?_)
      refine lv_aload_n hx hb dL_isBouncedSo_194 rfl (lv_at hl 5 rfl) ?_
      refine lv_bipush (v := 7) hx hb dL_isBouncedSo_195 (by decide) ?_
      refine lv_iload hx hb dL_isBouncedSo_197 (lv_at hl 2 rfl) ?_
      refine lv_iconst (v := 0) hx hb dL_isBouncedSo_199 (by decide) ?_
      refine lv_iconst (v := 0) hx hb dL_isBouncedSo_200 (by decide) ?_
      refine lv_iconst (v := 0) hx hb dL_isBouncedSo_201 (by decide) ?_
      refine fw_callSH hx hb hml hown hts hE hw [.ref (α3 0 0 0), .int 7, .int (nI S.2.2.1), .int 0, .int 0, .int 0] [] (met_L hd4 (fun A => c_L_does l D A y sa f2 hfl α3 S2 7 (nI S.2.2.1) 0 0 0 hN2 hI2 hR2)) (vx_cwSW 6 hts gL_isBouncedSo_L_does rfl rfl rfl (by decide +kernel) ⟨Nat.le_of_ble_eq_true rfl, Nat.le_of_ble_eq_true rfl⟩) rfl hl.1 rfl (Nat.le_of_ble_eq_true rfl) dL_isBouncedSo_202 ⟨Nat.le_of_ble_eq_true rfl, Nat.le_of_ble_eq_true rfl⟩ (fun r82 f83 H locs hp84 hw => ?_)
      obtain ⟨hp84a, hp84b⟩ := hp84.none (doesF_7.trans hc3)
      rw [hp84b] at hw
      rw [hp84a]
      refine lv_ldc (own := RL) (v := -900000001) hx hb hown (hts (.constant RL 44 (-900000001)) (by decide +kernel)) dL_isBouncedSo_205 ?_
      refine lv_icmp_ne (tgt := 214) hx hb dL_isBouncedSo_207 (by decide) (fun c_85 => absurd c_85 (by decide)) (fun _ => ?_)
      refine lv_iconst (v := 1) hx hb dL_isBouncedSo_210 (by decide) ?_
      refine lv_goto (tgt := 215) hx hb dL_isBouncedSo_211 (by decide) ?_
      exact fw_zret hx hb hr hlocks hw (Nat.le_of_ble_eq_true rfl) (Nat.le_of_ble_eq_true rfl) (by decide +kernel) dL_isBouncedSo_215 (⟨rfl, S2, Or.inr ⟨S1, r2, hc, hc2⟩, α3, β3, f2, g2, hα2.trans hα, hβ2.trans hβ, hR2, hG2, hd4, rfl⟩)
