/-! A WORKER, AS THE LAW LOOKS AT IT -/
def dF (S : pS) (w : Nat) : Nat → Int32 := fun k => if k ≤ S.2.2.2.1 then duC S.2.2.2.2 w (nI k) (nI k) else 0
/-- what the law asks of a worker -/
def wOK (S : pS) (w : Nat) : Prop := clC S.2.2.2.2 S.2.2.2.1 w = ssC S.2.2.2.2 w (duC S.2.2.2.2 w 0 (nI S.2.2.2.1) + S.2.2.2.2 4 w 4) 31 ∧ ¬ S.2.2.2.2 4 w 3 < 0 ∧ ¬ S.2.2.2.2 4 w 1 < 0 ∧ ¬ 20 < S.2.2.2.2 4 w 1 ∧
  (∀ k, k < 31 → ¬ duC S.2.2.2.2 w (nI k) (nI k) < 0 ∧ ¬ spC S.2.2.2.2 w k 0 < 0 ∧ ¬ spC S.2.2.2.2 w k 0 / 10 < spC S.2.2.2.2 w k 1 ∧ ¬ spC S.2.2.2.2 w k 2 < 0 ∧ ¬ spC S.2.2.2.2 w k 3 < 0 ∧ spC S.2.2.2.2 w k 0 = spC S.2.2.2.2 w k 1 + spC S.2.2.2.2 w k 2 + spC S.2.2.2.2 w k 3 ∧ (S.2.2.2.1 ≤ k → spC S.2.2.2.2 w k 0 = 0)) ∧
  clC S.2.2.2.2 S.2.2.2.1 w = gS (dF S w) 31 - gS (fun k => spC S.2.2.2.2 w k 0) 31 + gS (fun k => spC S.2.2.2.2 w k 1) 31 + S.2.2.2.2 4 w 3
theorem nI_lg {a b : Nat} (h : a ≤ b) (hb : b < 2 ^ 31) : ¬ nI b < nI a := fun z => absurd (nI_ltr z hb (by omega)) (by omega)
set_option maxHeartbeats 4000000 in
set_option maxRecDepth 100000 in
/-- the law: a worker is so -/
theorem c_L_isWorkerSo (l : Launch) (D : va_G) (A : Nat → Prop) (y : Nat → ClassId) (sa : Nat → Nat) (h : fw_F) (hfl : l.stackTraces = false) (α : Nat → Nat → Nat → Nat) (S : pS) (w : Nat) (hwn : w < S.1) (hI : IS S) (hH : RH y S α h) (hO : wOK S w) : Met l yL_isWorkerSo wsL_isWorkerSo ({ frames := 9, cells := 875, slots := 5250, locals := 154 } : Room) (cPc D A y sa h [.ref (α 0 0 0), .int (nI w)]) (cQi D A (fun r h1 => r = 1 ∧ h1 = h)) 875 5250 A := by
  refine fw_met (by decide) rfl [.ref (α 0 0 0), .int (nI w)] (Nat.le_of_ble_eq_true rfl) ?_
  intro p e s m args below meth c ls I hin hE hw hl
  obtain ⟨hx, hb, hr, hts, hown, hlocks, hml⟩ := I
  have hown : s.vm.findClass RL = some m.cls := hown
  have hl : lv_has ls 8 [(0, .ref (α 0 0 0)), (1, .int (nI w))] := hl
  obtain ⟨o1, o2, o3, o4, o5, o6⟩ := hO
  have h8 := hI.1
  have h31 := hI.2.2.2.1
  refine lv_iconst (v := 0) hx hb dL_isWorkerSo_0 (by decide) ?_
  refine lv_istore_n (lv' := [(2, .int 0), (0, .ref (α 0 0 0)), (1, .int (nI w))]) hx hb dL_isWorkerSo_1 rfl hl (by decide) rfl (fun ls hl => ?_)
  refine lv_iconst (v := 0) hx hb dL_isWorkerSo_2 (by decide) ?_
  refine lv_istore_n (lv' := [(3, .int 0), (2, .int 0), (0, .ref (α 0 0 0)), (1, .int (nI w))]) hx hb dL_isWorkerSo_3 rfl hl (by decide) rfl (fun ls hl => ?_)
  refine lv_iconst (v := 0) hx hb dL_isWorkerSo_4 (by decide) ?_
  refine lv_istore (lv' := [(4, .int 0), (3, .int 0), (2, .int 0), (0, .ref (α 0 0 0)), (1, .int (nI w))]) hx hb dL_isWorkerSo_5 hl (by decide) rfl (fun ls hl => ?_)
  refine lv_aload_n hx hb dL_isWorkerSo_7 rfl (lv_at hl 3 rfl) ?_
  refine lv_iload_n hx hb dL_isWorkerSo_8 rfl (lv_at hl 4 rfl) ?_
  refine fw_callVi hx hb hml hown hts hE hw [.int (nI w)] [] (rd_claim (l := l) (D := D) (A := A) (sa := sa) hfl hI hH hwn) (cwV 1 hts gL_isWorkerSo_X8_claim rfl rfl rfl (by decide +kernel) ⟨Nat.le_of_ble_eq_true rfl, Nat.le_of_ble_eq_true rfl⟩) (ci := 8) rfl rfl hH.x rfl hl.1 rfl (Nat.le_of_ble_eq_true rfl) dL_isWorkerSo_9 ⟨Nat.le_of_ble_eq_true rfl, Nat.le_of_ble_eq_true rfl⟩ (fun r1 f2 H locs hp3 hw => ?_)
  obtain ⟨hp3a, hp3b⟩ := hp3
  rw [hp3b] at hw
  rw [hp3a]
  refine lv_aload_n hx hb dL_isWorkerSo_12 rfl (lv_at hl 3 rfl) ?_
  refine lv_iload_n hx hb dL_isWorkerSo_13 rfl (lv_at hl 4 rfl) ?_
  refine fw_callVi hx hb hml hown hts hE hw [.int (nI w)] [.int (clC S.2.2.2.2 S.2.2.2.1 w)] (rd_claimBySlips (l := l) (D := D) (A := A) (sa := sa) hfl hI hH hwn) (cwV 1 hts gL_isWorkerSo_X8_claimBySlips rfl rfl rfl (by decide +kernel) ⟨Nat.le_of_ble_eq_true rfl, Nat.le_of_ble_eq_true rfl⟩) (ci := 8) rfl rfl hH.x rfl hl.1 rfl (Nat.le_of_ble_eq_true rfl) dL_isWorkerSo_14 ⟨Nat.le_of_ble_eq_true rfl, Nat.le_of_ble_eq_true rfl⟩ (fun r4 f5 H locs hp6 hw => ?_)
  obtain ⟨hp6a, hp6b⟩ := hp6
  rw [hp6b] at hw
  rw [hp6a]
  refine lv_icmp_ne (tgt := 50) hx hb dL_isWorkerSo_17 (by decide) (fun c_7 => absurd (o1) c_7) (fun _ => ?_)
  refine lv_aload_n hx hb dL_isWorkerSo_20 rfl (lv_at hl 3 rfl) ?_
  refine lv_iload_n hx hb dL_isWorkerSo_21 rfl (lv_at hl 4 rfl) ?_
  refine fw_callVi hx hb hml hown hts hE hw [.int (nI w)] [] (rd_toTakeBack (l := l) (D := D) (A := A) (sa := sa) hfl hI hH hwn) (cwV 1 hts gL_isWorkerSo_X8_toTakeBack rfl rfl rfl (by decide +kernel) ⟨Nat.le_of_ble_eq_true rfl, Nat.le_of_ble_eq_true rfl⟩) (ci := 8) rfl rfl hH.x rfl hl.1 rfl (Nat.le_of_ble_eq_true rfl) dL_isWorkerSo_22 ⟨Nat.le_of_ble_eq_true rfl, Nat.le_of_ble_eq_true rfl⟩ (fun r8 f9 H locs hp10 hw => ?_)
  obtain ⟨hp10a, hp10b⟩ := hp10
  rw [hp10b] at hw
  rw [hp10a]
  refine lv_if_lt (tgt := 50) hx hb dL_isWorkerSo_25 (by decide) (fun c_11 => absurd c_11 (o2)) (fun _ => ?_)
  refine lv_aload_n hx hb dL_isWorkerSo_28 rfl (lv_at hl 3 rfl) ?_
  refine lv_iload_n hx hb dL_isWorkerSo_29 rfl (lv_at hl 4 rfl) ?_
  refine fw_callVi hx hb hml hown hts hE hw [.int (nI w)] [] (rd_acknowledged (l := l) (D := D) (A := A) (sa := sa) hfl hI hH hwn) (cwV 1 hts gL_isWorkerSo_X8_acknowledged rfl rfl rfl (by decide +kernel) ⟨Nat.le_of_ble_eq_true rfl, Nat.le_of_ble_eq_true rfl⟩) (ci := 8) rfl rfl hH.x rfl hl.1 rfl (Nat.le_of_ble_eq_true rfl) dL_isWorkerSo_30 ⟨Nat.le_of_ble_eq_true rfl, Nat.le_of_ble_eq_true rfl⟩ (fun r12 f13 H locs hp14 hw => ?_)
  obtain ⟨hp14a, hp14b⟩ := hp14
  rw [hp14b] at hw
  rw [hp14a]
  refine lv_if_lt (tgt := 50) hx hb dL_isWorkerSo_33 (by decide) (fun c_15 => absurd c_15 (o3)) (fun _ => ?_)
  refine lv_aload_n hx hb dL_isWorkerSo_36 rfl (lv_at hl 3 rfl) ?_
  refine lv_iload_n hx hb dL_isWorkerSo_37 rfl (lv_at hl 4 rfl) ?_
  refine fw_callVi hx hb hml hown hts hE hw [.int (nI w)] [] (rd_acknowledged (l := l) (D := D) (A := A) (sa := sa) hfl hI hH hwn) (cwV 1 hts gL_isWorkerSo_X8_acknowledged rfl rfl rfl (by decide +kernel) ⟨Nat.le_of_ble_eq_true rfl, Nat.le_of_ble_eq_true rfl⟩) (ci := 8) rfl rfl hH.x rfl hl.1 rfl (Nat.le_of_ble_eq_true rfl) dL_isWorkerSo_38 ⟨Nat.le_of_ble_eq_true rfl, Nat.le_of_ble_eq_true rfl⟩ (fun r16 f17 H locs hp18 hw => ?_)
  obtain ⟨hp18a, hp18b⟩ := hp18
  rw [hp18b] at hw
  rw [hp18a]
  refine lv_bipush (v := 20) hx hb dL_isWorkerSo_41 (by decide) ?_
  refine lv_icmp_gt (tgt := 50) hx hb dL_isWorkerSo_43 (by decide) (fun c_19 => absurd c_19 (o4)) (fun _ => ?_)
  refine lv_iconst (v := 1) hx hb dL_isWorkerSo_46 (by decide) ?_
  refine lv_goto (tgt := 51) hx hb dL_isWorkerSo_47 (by decide) ?_
  refine lv_istore (lv' := [(5, .int 1), (4, .int 0), (3, .int 0), (2, .int 0), (0, .ref (α 0 0 0)), (1, .int (nI w))]) hx hb dL_isWorkerSo_51 hl (by decide) rfl (fun ls hl => ?_)
  refine lv_iconst (v := 0) hx hb dL_isWorkerSo_53 (by decide) ?_
  refine lv_istore (lv' := [(6, .int 0), (5, .int 1), (4, .int 0), (3, .int 0), (2, .int 0), (0, .ref (α 0 0 0)), (1, .int (nI w))]) hx hb dL_isWorkerSo_54 hl (by decide) rfl (fun ls hl => ?_)
  refine W.widen (k := 5 + 28 * 0) (n := 30 + 168 * 0) (by omega) (by omega) ?_
  refine fw_loop 56 8 (fun i : Nat => 31 - i) (fun i : Nat => i ≤ 31) (fun _ => h) (fun i : Nat => [(6, .int (nI i)), (5, .int 1), (4, .int (gS (fun k => spC S.2.2.2.2 w k 1) i)), (3, .int (gS (fun k => spC S.2.2.2.2 w k 0) i)), (2, .int (gS (dF S w) i)), (0, .ref (α 0 0 0)), (1, .int (nI w))]) (fun _ => []) (fun i : Nat => 5 + 28 * i) (fun i : Nat => 30 + 168 * i) (fun i H locs ls hP hw hl IH => ?_) 0 H locs ls (Nat.zero_le _) hw (lv_sub hl [0, 1, 2, 3, 4, 5, 6] rfl)
  rcases Nat.lt_or_ge i 31 with hi | hi
  · obtain ⟨b1, b2, b3, b4, b5, b6, b7⟩ := o5 i hi
    rcases Nat.lt_or_ge S.2.2.2.1 i with hk | hk
    · refine lv_iload hx hb dL_isWorkerSo_56 (lv_at hl 0 rfl) ?_
      refine lv_bipush (v := 31) hx hb dL_isWorkerSo_58 (by decide) ?_
      refine lv_icmp_ge (tgt := 230) hx hb dL_isWorkerSo_60 (by decide) (fun c_20 => absurd c_20 (nI_ge hi (by decide))) (fun _ => ?_)
      refine lv_iload hx hb dL_isWorkerSo_63 (lv_at hl 1 rfl) ?_
      refine lv_if_eq (tgt := 230) hx hb dL_isWorkerSo_65 (by decide) (fun c_21 => absurd c_21 (by decide)) (fun _ => ?_)
      refine lv_aload_n hx hb dL_isWorkerSo_68 rfl (lv_at hl 5 rfl) ?_
      refine lv_iload_n hx hb dL_isWorkerSo_69 rfl (lv_at hl 6 rfl) ?_
      refine lv_iload hx hb dL_isWorkerSo_70 (lv_at hl 0 rfl) ?_
      refine lv_iconst (v := 0) hx hb dL_isWorkerSo_72 (by decide) ?_
      refine fw_callVi hx hb hml hown hts hE hw [.int (nI w), .int (nI i), .int 0] [] (rd_slip (l := l) (D := D) (A := A) (sa := sa) hfl hI hH hwn (k := i) (by omega) (pt := 0) (by omega)) (cwV 3 hts gL_isWorkerSo_X8_slip rfl rfl rfl (by decide +kernel) ⟨Nat.le_of_ble_eq_true rfl, Nat.le_of_ble_eq_true rfl⟩) (ci := 8) rfl rfl hH.x rfl hl.1 rfl (Nat.le_of_ble_eq_true rfl) dL_isWorkerSo_73 ⟨by show 5 + 28 * i + 3 ≤ 875; omega, by show 30 + 168 * i + 18 ≤ 5250; omega⟩ (fun r22 f23 H locs hp24 hw => ?_)
      obtain ⟨hp24a, hp24b⟩ := hp24
      rw [hp24b] at hw
      rw [hp24a]
      refine lv_istore (lv' := [(7, .int (spC S.2.2.2.2 w i 0)), (6, .int (nI i)), (5, .int 1), (4, .int (gS (fun k => spC S.2.2.2.2 w k 1) i)), (3, .int (gS (fun k => spC S.2.2.2.2 w k 0) i)), (2, .int (gS (dF S w) i)), (0, .ref (α 0 0 0)), (1, .int (nI w))]) hx hb dL_isWorkerSo_76 hl (by decide) rfl (fun ls hl => ?_)
      refine lv_iload_n hx hb dL_isWorkerSo_78 rfl (lv_at hl 5 rfl) ?_
      refine lv_iload hx hb dL_isWorkerSo_79 (lv_at hl 1 rfl) ?_
      refine lv_aload_n hx hb dL_isWorkerSo_81 rfl (lv_at hl 6 rfl) ?_
      refine fw_callVi hx hb hml hown hts hE hw [] [.int (nI i), .int (gS (dF S w) i)] (rd_week (l := l) (D := D) (A := A) (sa := sa) hH ) (cwV 0 hts gL_isWorkerSo_X8_week rfl rfl rfl (by decide +kernel) ⟨Nat.le_of_ble_eq_true rfl, Nat.le_of_ble_eq_true rfl⟩) (ci := 8) rfl rfl hH.x rfl hl.1 rfl (Nat.le_of_ble_eq_true rfl) dL_isWorkerSo_82 ⟨by show 5 + 28 * i + 3 + 0 ≤ 875; omega, by show 30 + 168 * i + 18 + 0 ≤ 5250; omega⟩ (fun r25 f26 H locs hp27 hw => ?_)
      obtain ⟨hp27a, hp27b⟩ := hp27
      rw [hp27b] at hw
      rw [hp27a]
      refine lv_icmp_gt (tgt := 98) hx hb dL_isWorkerSo_85 (by decide) (fun _ => ?_) (fun c_28 => absurd (nI_lt hk (by omega)) c_28)
      refine lv_iconst (v := 0) hx hb dL_isWorkerSo_98 (by decide) ?_
      refine lv_iadd hx hb dL_isWorkerSo_99 ?_
      rw [show (((gS (dF S w) i) + 0) : Int32) = gS (dF S w) (i + 1) from (congrArg (gS (dF S w) i + ·) (if_neg (by omega))).symm]
      refine lv_istore_n (lv' := [(2, .int (gS (dF S w) (i + 1))), (7, .int (spC S.2.2.2.2 w i 0)), (6, .int (nI i)), (5, .int 1), (4, .int (gS (fun k => spC S.2.2.2.2 w k 1) i)), (3, .int (gS (fun k => spC S.2.2.2.2 w k 0) i)), (0, .ref (α 0 0 0)), (1, .int (nI w))]) hx hb dL_isWorkerSo_100 rfl hl (by decide) rfl (fun ls hl => ?_)
      refine lv_iload_n hx hb dL_isWorkerSo_101 rfl (lv_at hl 5 rfl) ?_
      refine lv_iload hx hb dL_isWorkerSo_102 (lv_at hl 1 rfl) ?_
      refine lv_iadd hx hb dL_isWorkerSo_104 ?_
      refine lv_istore_n (lv' := [(3, .int ((gS (fun k => spC S.2.2.2.2 w k 0) i) + (spC S.2.2.2.2 w i 0))), (2, .int (gS (dF S w) (i + 1))), (7, .int (spC S.2.2.2.2 w i 0)), (6, .int (nI i)), (5, .int 1), (4, .int (gS (fun k => spC S.2.2.2.2 w k 1) i)), (0, .ref (α 0 0 0)), (1, .int (nI w))]) hx hb dL_isWorkerSo_105 rfl hl (by decide) rfl (fun ls hl => ?_)
      refine lv_iload hx hb dL_isWorkerSo_106 (lv_at hl 5 rfl) ?_
      refine lv_aload_n hx hb dL_isWorkerSo_108 rfl (lv_at hl 6 rfl) ?_
      refine lv_iload_n hx hb dL_isWorkerSo_109 rfl (lv_at hl 7 rfl) ?_
      refine lv_iload hx hb dL_isWorkerSo_110 (lv_at hl 3 rfl) ?_
      refine lv_iconst (v := 1) hx hb dL_isWorkerSo_112 (by decide) ?_
      refine fw_callVi hx hb hml hown hts hE hw [.int (nI w), .int (nI i), .int 1] [.int (gS (fun k => spC S.2.2.2.2 w k 1) i)] (rd_slip (l := l) (D := D) (A := A) (sa := sa) hfl hI hH hwn (k := i) (by omega) (pt := 1) (by omega)) (cwV 3 hts gL_isWorkerSo_X8_slip rfl rfl rfl (by decide +kernel) ⟨Nat.le_of_ble_eq_true rfl, Nat.le_of_ble_eq_true rfl⟩) (ci := 8) rfl rfl hH.x rfl hl.1 rfl (Nat.le_of_ble_eq_true rfl) dL_isWorkerSo_113 ⟨by show 5 + 28 * i + 3 + 0 + 3 ≤ 875; omega, by show 30 + 168 * i + 18 + 0 + 18 ≤ 5250; omega⟩ (fun r29 f30 H locs hp31 hw => ?_)
      obtain ⟨hp31a, hp31b⟩ := hp31
      rw [hp31b] at hw
      rw [hp31a]
      refine lv_iadd hx hb dL_isWorkerSo_116 ?_
      refine lv_istore (lv' := [(4, .int ((gS (fun k => spC S.2.2.2.2 w k 1) i) + (spC S.2.2.2.2 w i 1))), (3, .int ((gS (fun k => spC S.2.2.2.2 w k 0) i) + (spC S.2.2.2.2 w i 0))), (2, .int (gS (dF S w) (i + 1))), (7, .int (spC S.2.2.2.2 w i 0)), (6, .int (nI i)), (5, .int 1), (0, .ref (α 0 0 0)), (1, .int (nI w))]) hx hb dL_isWorkerSo_117 hl (by decide) rfl (fun ls hl => ?_)
      refine lv_aload_n hx hb dL_isWorkerSo_119 rfl (lv_at hl 6 rfl) ?_
      refine lv_iload_n hx hb dL_isWorkerSo_120 rfl (lv_at hl 7 rfl) ?_
      refine lv_iload hx hb dL_isWorkerSo_121 (lv_at hl 4 rfl) ?_
      refine fw_callVi hx hb hml hown hts hE hw [.int (nI w), .int (nI i)] [] (rd_due (l := l) (D := D) (A := A) (sa := sa) hfl hI hH hwn (k := i) (by omega)) (cwV 2 hts gL_isWorkerSo_X8_due rfl rfl rfl (by decide +kernel) ⟨Nat.le_of_ble_eq_true rfl, Nat.le_of_ble_eq_true rfl⟩) (ci := 8) rfl rfl hH.x rfl hl.1 rfl (Nat.le_of_ble_eq_true rfl) dL_isWorkerSo_123 ⟨by show 5 + 28 * i + 3 + 0 + 3 + 2 ≤ 875; omega, by show 30 + 168 * i + 18 + 0 + 18 + 12 ≤ 5250; omega⟩ (fun r32 f33 H locs hp34 hw => ?_)
      obtain ⟨hp34a, hp34b⟩ := hp34
      rw [hp34b] at hw
      rw [hp34a]
      refine lv_if_lt (tgt := 221) hx hb dL_isWorkerSo_126 (by decide) (fun c_35 => absurd c_35 (b1)) (fun _ => ?_)
      refine lv_iload hx hb dL_isWorkerSo_129 (lv_at hl 3 rfl) ?_
      refine lv_if_lt (tgt := 221) hx hb dL_isWorkerSo_131 (by decide) (fun c_36 => absurd c_36 (b2)) (fun _ => ?_)
      refine lv_aload_n hx hb dL_isWorkerSo_134 rfl (lv_at hl 6 rfl) ?_
      refine lv_iload_n hx hb dL_isWorkerSo_135 rfl (lv_at hl 7 rfl) ?_
      refine lv_iload hx hb dL_isWorkerSo_136 (lv_at hl 4 rfl) ?_
      refine lv_iconst (v := 1) hx hb dL_isWorkerSo_138 (by decide) ?_
      refine fw_callVi hx hb hml hown hts hE hw [.int (nI w), .int (nI i), .int 1] [] (rd_slip (l := l) (D := D) (A := A) (sa := sa) hfl hI hH hwn (k := i) (by omega) (pt := 1) (by omega)) (cwV 3 hts gL_isWorkerSo_X8_slip rfl rfl rfl (by decide +kernel) ⟨Nat.le_of_ble_eq_true rfl, Nat.le_of_ble_eq_true rfl⟩) (ci := 8) rfl rfl hH.x rfl hl.1 rfl (Nat.le_of_ble_eq_true rfl) dL_isWorkerSo_139 ⟨by show 5 + 28 * i + 3 + 0 + 3 + 2 + 3 ≤ 875; omega, by show 30 + 168 * i + 18 + 0 + 18 + 12 + 18 ≤ 5250; omega⟩ (fun r37 f38 H locs hp39 hw => ?_)
      obtain ⟨hp39a, hp39b⟩ := hp39
      rw [hp39b] at hw
      rw [hp39a]
      refine lv_iload hx hb dL_isWorkerSo_142 (lv_at hl 3 rfl) ?_
      refine lv_bipush (v := 10) hx hb dL_isWorkerSo_144 (by decide) ?_
      refine lv_idiv hx hb dL_isWorkerSo_146 (by decide) ?_
      refine lv_icmp_gt (tgt := 221) hx hb dL_isWorkerSo_147 (by decide) (fun c_40 => absurd c_40 (b3)) (fun _ => ?_)
      refine lv_aload_n hx hb dL_isWorkerSo_150 rfl (lv_at hl 6 rfl) ?_
      refine lv_iload_n hx hb dL_isWorkerSo_151 rfl (lv_at hl 7 rfl) ?_
      refine lv_iload hx hb dL_isWorkerSo_152 (lv_at hl 4 rfl) ?_
      refine lv_iconst (v := 2) hx hb dL_isWorkerSo_154 (by decide) ?_
      refine fw_callVi hx hb hml hown hts hE hw [.int (nI w), .int (nI i), .int 2] [] (rd_slip (l := l) (D := D) (A := A) (sa := sa) hfl hI hH hwn (k := i) (by omega) (pt := 2) (by omega)) (cwV 3 hts gL_isWorkerSo_X8_slip rfl rfl rfl (by decide +kernel) ⟨Nat.le_of_ble_eq_true rfl, Nat.le_of_ble_eq_true rfl⟩) (ci := 8) rfl rfl hH.x rfl hl.1 rfl (Nat.le_of_ble_eq_true rfl) dL_isWorkerSo_155 ⟨by show 5 + 28 * i + 3 + 0 + 3 + 2 + 3 + 3 ≤ 875; omega, by show 30 + 168 * i + 18 + 0 + 18 + 12 + 18 + 18 ≤ 5250; omega⟩ (fun r41 f42 H locs hp43 hw => ?_)
      obtain ⟨hp43a, hp43b⟩ := hp43
      rw [hp43b] at hw
      rw [hp43a]
      refine lv_if_lt (tgt := 221) hx hb dL_isWorkerSo_158 (by decide) (fun c_44 => absurd c_44 (b4)) (fun _ => ?_)
      refine lv_aload_n hx hb dL_isWorkerSo_161 rfl (lv_at hl 6 rfl) ?_
      refine lv_iload_n hx hb dL_isWorkerSo_162 rfl (lv_at hl 7 rfl) ?_
      refine lv_iload hx hb dL_isWorkerSo_163 (lv_at hl 4 rfl) ?_
      refine lv_iconst (v := 3) hx hb dL_isWorkerSo_165 (by decide) ?_
      refine fw_callVi hx hb hml hown hts hE hw [.int (nI w), .int (nI i), .int 3] [] (rd_slip (l := l) (D := D) (A := A) (sa := sa) hfl hI hH hwn (k := i) (by omega) (pt := 3) (by omega)) (cwV 3 hts gL_isWorkerSo_X8_slip rfl rfl rfl (by decide +kernel) ⟨Nat.le_of_ble_eq_true rfl, Nat.le_of_ble_eq_true rfl⟩) (ci := 8) rfl rfl hH.x rfl hl.1 rfl (Nat.le_of_ble_eq_true rfl) dL_isWorkerSo_166 ⟨by show 5 + 28 * i + 3 + 0 + 3 + 2 + 3 + 3 + 3 ≤ 875; omega, by show 30 + 168 * i + 18 + 0 + 18 + 12 + 18 + 18 + 18 ≤ 5250; omega⟩ (fun r45 f46 H locs hp47 hw => ?_)
      obtain ⟨hp47a, hp47b⟩ := hp47
      rw [hp47b] at hw
      rw [hp47a]
      refine lv_if_lt (tgt := 221) hx hb dL_isWorkerSo_169 (by decide) (fun c_48 => absurd c_48 (b5)) (fun _ => ?_)
      refine lv_iload hx hb dL_isWorkerSo_172 (lv_at hl 3 rfl) ?_
      refine lv_aload_n hx hb dL_isWorkerSo_174 rfl (lv_at hl 6 rfl) ?_
      refine lv_iload_n hx hb dL_isWorkerSo_175 rfl (lv_at hl 7 rfl) ?_
      refine lv_iload hx hb dL_isWorkerSo_176 (lv_at hl 4 rfl) ?_
      refine lv_iconst (v := 1) hx hb dL_isWorkerSo_178 (by decide) ?_
      refine fw_callVi hx hb hml hown hts hE hw [.int (nI w), .int (nI i), .int 1] [.int (spC S.2.2.2.2 w i 0)] (rd_slip (l := l) (D := D) (A := A) (sa := sa) hfl hI hH hwn (k := i) (by omega) (pt := 1) (by omega)) (cwV 3 hts gL_isWorkerSo_X8_slip rfl rfl rfl (by decide +kernel) ⟨Nat.le_of_ble_eq_true rfl, Nat.le_of_ble_eq_true rfl⟩) (ci := 8) rfl rfl hH.x rfl hl.1 rfl (Nat.le_of_ble_eq_true rfl) dL_isWorkerSo_179 ⟨by show 5 + 28 * i + 3 + 0 + 3 + 2 + 3 + 3 + 3 + 3 ≤ 875; omega, by show 30 + 168 * i + 18 + 0 + 18 + 12 + 18 + 18 + 18 + 18 ≤ 5250; omega⟩ (fun r49 f50 H locs hp51 hw => ?_)
      obtain ⟨hp51a, hp51b⟩ := hp51
      rw [hp51b] at hw
      rw [hp51a]
      refine lv_aload_n hx hb dL_isWorkerSo_182 rfl (lv_at hl 6 rfl) ?_
      refine lv_iload_n hx hb dL_isWorkerSo_183 rfl (lv_at hl 7 rfl) ?_
      refine lv_iload hx hb dL_isWorkerSo_184 (lv_at hl 4 rfl) ?_
      refine lv_iconst (v := 2) hx hb dL_isWorkerSo_186 (by decide) ?_
      refine fw_callVi hx hb hml hown hts hE hw [.int (nI w), .int (nI i), .int 2] [.int (spC S.2.2.2.2 w i 1), .int (spC S.2.2.2.2 w i 0)] (rd_slip (l := l) (D := D) (A := A) (sa := sa) hfl hI hH hwn (k := i) (by omega) (pt := 2) (by omega)) (cwV 3 hts gL_isWorkerSo_X8_slip rfl rfl rfl (by decide +kernel) ⟨Nat.le_of_ble_eq_true rfl, Nat.le_of_ble_eq_true rfl⟩) (ci := 8) rfl rfl hH.x rfl hl.1 rfl (Nat.le_of_ble_eq_true rfl) dL_isWorkerSo_187 ⟨by show 5 + 28 * i + 3 + 0 + 3 + 2 + 3 + 3 + 3 + 3 + 3 ≤ 875; omega, by show 30 + 168 * i + 18 + 0 + 18 + 12 + 18 + 18 + 18 + 18 + 18 ≤ 5250; omega⟩ (fun r52 f53 H locs hp54 hw => ?_)
      obtain ⟨hp54a, hp54b⟩ := hp54
      rw [hp54b] at hw
      rw [hp54a]
      refine lv_iadd hx hb dL_isWorkerSo_190 ?_
      refine lv_aload_n hx hb dL_isWorkerSo_191 rfl (lv_at hl 6 rfl) ?_
      refine lv_iload_n hx hb dL_isWorkerSo_192 rfl (lv_at hl 7 rfl) ?_
      refine lv_iload hx hb dL_isWorkerSo_193 (lv_at hl 4 rfl) ?_
      refine lv_iconst (v := 3) hx hb dL_isWorkerSo_195 (by decide) ?_
      refine fw_callVi hx hb hml hown hts hE hw [.int (nI w), .int (nI i), .int 3] [.int ((spC S.2.2.2.2 w i 1) + (spC S.2.2.2.2 w i 2)), .int (spC S.2.2.2.2 w i 0)] (rd_slip (l := l) (D := D) (A := A) (sa := sa) hfl hI hH hwn (k := i) (by omega) (pt := 3) (by omega)) (cwV 3 hts gL_isWorkerSo_X8_slip rfl rfl rfl (by decide +kernel) ⟨Nat.le_of_ble_eq_true rfl, Nat.le_of_ble_eq_true rfl⟩) (ci := 8) rfl rfl hH.x rfl hl.1 rfl (Nat.le_of_ble_eq_true rfl) dL_isWorkerSo_196 ⟨by show 5 + 28 * i + 3 + 0 + 3 + 2 + 3 + 3 + 3 + 3 + 3 + 3 ≤ 875; omega, by show 30 + 168 * i + 18 + 0 + 18 + 12 + 18 + 18 + 18 + 18 + 18 + 18 ≤ 5250; omega⟩ (fun r55 f56 H locs hp57 hw => ?_)
      obtain ⟨hp57a, hp57b⟩ := hp57
      rw [hp57b] at hw
      rw [hp57a]
      refine lv_iadd hx hb dL_isWorkerSo_199 ?_
      refine lv_icmp_ne (tgt := 221) hx hb dL_isWorkerSo_200 (by decide) (fun c_58 => absurd (b6) c_58) (fun _ => ?_)
      refine lv_iload hx hb dL_isWorkerSo_203 (lv_at hl 4 rfl) ?_
      refine lv_aload_n hx hb dL_isWorkerSo_205 rfl (lv_at hl 6 rfl) ?_
      refine fw_callVi hx hb hml hown hts hE hw [] [.int (nI i)] (rd_week (l := l) (D := D) (A := A) (sa := sa) hH ) (cwV 0 hts gL_isWorkerSo_X8_week rfl rfl rfl (by decide +kernel) ⟨Nat.le_of_ble_eq_true rfl, Nat.le_of_ble_eq_true rfl⟩) (ci := 8) rfl rfl hH.x rfl hl.1 rfl (Nat.le_of_ble_eq_true rfl) dL_isWorkerSo_206 ⟨by show 5 + 28 * i + 3 + 0 + 3 + 2 + 3 + 3 + 3 + 3 + 3 + 3 + 0 ≤ 875; omega, by show 30 + 168 * i + 18 + 0 + 18 + 12 + 18 + 18 + 18 + 18 + 18 + 18 + 0 ≤ 5250; omega⟩ (fun r59 f60 H locs hp61 hw => ?_)
      obtain ⟨hp61a, hp61b⟩ := hp61
      rw [hp61b] at hw
      rw [hp61a]
      refine lv_icmp_lt (tgt := 217) hx hb dL_isWorkerSo_209 (by decide) (fun c_62 => absurd c_62 (fun z => absurd (nI_ltr z (by omega) (by omega)) (by omega))) (fun _ => ?_)
      refine lv_iload hx hb dL_isWorkerSo_212 (lv_at hl 3 rfl) ?_
      refine lv_if_ne (tgt := 221) hx hb dL_isWorkerSo_214 (by decide) (fun c_63 => absurd (b7 (by omega)) c_63) (fun _ => ?_)
      refine lv_iconst (v := 1) hx hb dL_isWorkerSo_217 (by decide) ?_
      refine lv_goto (tgt := 222) hx hb dL_isWorkerSo_218 (by decide) ?_
      refine lv_istore (lv' := [(5, .int 1), (4, .int ((gS (fun k => spC S.2.2.2.2 w k 1) i) + (spC S.2.2.2.2 w i 1))), (3, .int ((gS (fun k => spC S.2.2.2.2 w k 0) i) + (spC S.2.2.2.2 w i 0))), (2, .int (gS (dF S w) (i + 1))), (7, .int (spC S.2.2.2.2 w i 0)), (6, .int (nI i)), (0, .ref (α 0 0 0)), (1, .int (nI w))]) hx hb dL_isWorkerSo_222 hl (by decide) rfl (fun ls hl => ?_)
      refine lv_iinc (v := (nI (i + 1))) (lv' := [(6, .int (nI (i + 1))), (5, .int 1), (4, .int ((gS (fun k => spC S.2.2.2.2 w k 1) i) + (spC S.2.2.2.2 w i 1))), (3, .int ((gS (fun k => spC S.2.2.2.2 w k 0) i) + (spC S.2.2.2.2 w i 0))), (2, .int (gS (dF S w) (i + 1))), (7, .int (spC S.2.2.2.2 w i 0)), (0, .ref (α 0 0 0)), (1, .int (nI w))]) hx hb dL_isWorkerSo_224 hl (k := 5) rfl (nI_1 (i)) (by decide) rfl (fun ls hl => ?_)
      refine lv_goto (tgt := 56) hx hb dL_isWorkerSo_227 (by decide) ?_
      refine W.widen (k := 5 + 28 * (i + 1)) (n := 30 + 168 * (i + 1)) (by omega) (by omega) ?_
      exact IH (i + 1) H locs ls (by omega) (by omega) hw (lv_sub hl [0, 1, 2, 3, 4, 6, 7] rfl)
    · refine lv_iload hx hb dL_isWorkerSo_56 (lv_at hl 0 rfl) ?_
      refine lv_bipush (v := 31) hx hb dL_isWorkerSo_58 (by decide) ?_
      refine lv_icmp_ge (tgt := 230) hx hb dL_isWorkerSo_60 (by decide) (fun c_64 => absurd c_64 (nI_ge hi (by decide))) (fun _ => ?_)
      refine lv_iload hx hb dL_isWorkerSo_63 (lv_at hl 1 rfl) ?_
      refine lv_if_eq (tgt := 230) hx hb dL_isWorkerSo_65 (by decide) (fun c_65 => absurd c_65 (by decide)) (fun _ => ?_)
      refine lv_aload_n hx hb dL_isWorkerSo_68 rfl (lv_at hl 5 rfl) ?_
      refine lv_iload_n hx hb dL_isWorkerSo_69 rfl (lv_at hl 6 rfl) ?_
      refine lv_iload hx hb dL_isWorkerSo_70 (lv_at hl 0 rfl) ?_
      refine lv_iconst (v := 0) hx hb dL_isWorkerSo_72 (by decide) ?_
      refine fw_callVi hx hb hml hown hts hE hw [.int (nI w), .int (nI i), .int 0] [] (rd_slip (l := l) (D := D) (A := A) (sa := sa) hfl hI hH hwn (k := i) (by omega) (pt := 0) (by omega)) (cwV 3 hts gL_isWorkerSo_X8_slip rfl rfl rfl (by decide +kernel) ⟨Nat.le_of_ble_eq_true rfl, Nat.le_of_ble_eq_true rfl⟩) (ci := 8) rfl rfl hH.x rfl hl.1 rfl (Nat.le_of_ble_eq_true rfl) dL_isWorkerSo_73 ⟨by show 5 + 28 * i + 3 ≤ 875; omega, by show 30 + 168 * i + 18 ≤ 5250; omega⟩ (fun r66 f67 H locs hp68 hw => ?_)
      obtain ⟨hp68a, hp68b⟩ := hp68
      rw [hp68b] at hw
      rw [hp68a]
      refine lv_istore (lv' := [(7, .int (spC S.2.2.2.2 w i 0)), (6, .int (nI i)), (5, .int 1), (4, .int (gS (fun k => spC S.2.2.2.2 w k 1) i)), (3, .int (gS (fun k => spC S.2.2.2.2 w k 0) i)), (2, .int (gS (dF S w) i)), (0, .ref (α 0 0 0)), (1, .int (nI w))]) hx hb dL_isWorkerSo_76 hl (by decide) rfl (fun ls hl => ?_)
      refine lv_iload_n hx hb dL_isWorkerSo_78 rfl (lv_at hl 5 rfl) ?_
      refine lv_iload hx hb dL_isWorkerSo_79 (lv_at hl 1 rfl) ?_
      refine lv_aload_n hx hb dL_isWorkerSo_81 rfl (lv_at hl 6 rfl) ?_
      refine fw_callVi hx hb hml hown hts hE hw [] [.int (nI i), .int (gS (dF S w) i)] (rd_week (l := l) (D := D) (A := A) (sa := sa) hH ) (cwV 0 hts gL_isWorkerSo_X8_week rfl rfl rfl (by decide +kernel) ⟨Nat.le_of_ble_eq_true rfl, Nat.le_of_ble_eq_true rfl⟩) (ci := 8) rfl rfl hH.x rfl hl.1 rfl (Nat.le_of_ble_eq_true rfl) dL_isWorkerSo_82 ⟨by show 5 + 28 * i + 3 + 0 ≤ 875; omega, by show 30 + 168 * i + 18 + 0 ≤ 5250; omega⟩ (fun r69 f70 H locs hp71 hw => ?_)
      obtain ⟨hp71a, hp71b⟩ := hp71
      rw [hp71b] at hw
      rw [hp71a]
      refine lv_icmp_gt (tgt := 98) hx hb dL_isWorkerSo_85 (by decide) (fun c_72 => absurd c_72 (nI_lg hk (by omega))) (fun _ => ?_)
      refine lv_aload_n hx hb dL_isWorkerSo_88 rfl (lv_at hl 6 rfl) ?_
      refine lv_iload_n hx hb dL_isWorkerSo_89 rfl (lv_at hl 7 rfl) ?_
      refine lv_iload hx hb dL_isWorkerSo_90 (lv_at hl 1 rfl) ?_
      refine fw_callVi hx hb hml hown hts hE hw [.int (nI w), .int (nI i)] [.int (gS (dF S w) i)] (rd_due (l := l) (D := D) (A := A) (sa := sa) hfl hI hH hwn (k := i) (by omega)) (cwV 2 hts gL_isWorkerSo_X8_due rfl rfl rfl (by decide +kernel) ⟨Nat.le_of_ble_eq_true rfl, Nat.le_of_ble_eq_true rfl⟩) (ci := 8) rfl rfl hH.x rfl hl.1 rfl (Nat.le_of_ble_eq_true rfl) dL_isWorkerSo_92 ⟨by show 5 + 28 * i + 3 + 0 + 2 ≤ 875; omega, by show 30 + 168 * i + 18 + 0 + 12 ≤ 5250; omega⟩ (fun r73 f74 H locs hp75 hw => ?_)
      obtain ⟨hp75a, hp75b⟩ := hp75
      rw [hp75b] at hw
      rw [hp75a]
      refine lv_goto (tgt := 99) hx hb dL_isWorkerSo_95 (by decide) ?_
      refine lv_iadd hx hb dL_isWorkerSo_99 ?_
      rw [show (((gS (dF S w) i) + (duC S.2.2.2.2 w (nI i) (nI i))) : Int32) = gS (dF S w) (i + 1) from (congrArg (gS (dF S w) i + ·) (if_pos hk)).symm]
      refine lv_istore_n (lv' := [(2, .int (gS (dF S w) (i + 1))), (7, .int (spC S.2.2.2.2 w i 0)), (6, .int (nI i)), (5, .int 1), (4, .int (gS (fun k => spC S.2.2.2.2 w k 1) i)), (3, .int (gS (fun k => spC S.2.2.2.2 w k 0) i)), (0, .ref (α 0 0 0)), (1, .int (nI w))]) hx hb dL_isWorkerSo_100 rfl hl (by decide) rfl (fun ls hl => ?_)
      refine lv_iload_n hx hb dL_isWorkerSo_101 rfl (lv_at hl 5 rfl) ?_
      refine lv_iload hx hb dL_isWorkerSo_102 (lv_at hl 1 rfl) ?_
      refine lv_iadd hx hb dL_isWorkerSo_104 ?_
      refine lv_istore_n (lv' := [(3, .int ((gS (fun k => spC S.2.2.2.2 w k 0) i) + (spC S.2.2.2.2 w i 0))), (2, .int (gS (dF S w) (i + 1))), (7, .int (spC S.2.2.2.2 w i 0)), (6, .int (nI i)), (5, .int 1), (4, .int (gS (fun k => spC S.2.2.2.2 w k 1) i)), (0, .ref (α 0 0 0)), (1, .int (nI w))]) hx hb dL_isWorkerSo_105 rfl hl (by decide) rfl (fun ls hl => ?_)
      refine lv_iload hx hb dL_isWorkerSo_106 (lv_at hl 5 rfl) ?_
      refine lv_aload_n hx hb dL_isWorkerSo_108 rfl (lv_at hl 6 rfl) ?_
      refine lv_iload_n hx hb dL_isWorkerSo_109 rfl (lv_at hl 7 rfl) ?_
      refine lv_iload hx hb dL_isWorkerSo_110 (lv_at hl 3 rfl) ?_
      refine lv_iconst (v := 1) hx hb dL_isWorkerSo_112 (by decide) ?_
      refine fw_callVi hx hb hml hown hts hE hw [.int (nI w), .int (nI i), .int 1] [.int (gS (fun k => spC S.2.2.2.2 w k 1) i)] (rd_slip (l := l) (D := D) (A := A) (sa := sa) hfl hI hH hwn (k := i) (by omega) (pt := 1) (by omega)) (cwV 3 hts gL_isWorkerSo_X8_slip rfl rfl rfl (by decide +kernel) ⟨Nat.le_of_ble_eq_true rfl, Nat.le_of_ble_eq_true rfl⟩) (ci := 8) rfl rfl hH.x rfl hl.1 rfl (Nat.le_of_ble_eq_true rfl) dL_isWorkerSo_113 ⟨by show 5 + 28 * i + 3 + 0 + 2 + 3 ≤ 875; omega, by show 30 + 168 * i + 18 + 0 + 12 + 18 ≤ 5250; omega⟩ (fun r76 f77 H locs hp78 hw => ?_)
      obtain ⟨hp78a, hp78b⟩ := hp78
      rw [hp78b] at hw
      rw [hp78a]
      refine lv_iadd hx hb dL_isWorkerSo_116 ?_
      refine lv_istore (lv' := [(4, .int ((gS (fun k => spC S.2.2.2.2 w k 1) i) + (spC S.2.2.2.2 w i 1))), (3, .int ((gS (fun k => spC S.2.2.2.2 w k 0) i) + (spC S.2.2.2.2 w i 0))), (2, .int (gS (dF S w) (i + 1))), (7, .int (spC S.2.2.2.2 w i 0)), (6, .int (nI i)), (5, .int 1), (0, .ref (α 0 0 0)), (1, .int (nI w))]) hx hb dL_isWorkerSo_117 hl (by decide) rfl (fun ls hl => ?_)
      refine lv_aload_n hx hb dL_isWorkerSo_119 rfl (lv_at hl 6 rfl) ?_
      refine lv_iload_n hx hb dL_isWorkerSo_120 rfl (lv_at hl 7 rfl) ?_
      refine lv_iload hx hb dL_isWorkerSo_121 (lv_at hl 4 rfl) ?_
      refine fw_callVi hx hb hml hown hts hE hw [.int (nI w), .int (nI i)] [] (rd_due (l := l) (D := D) (A := A) (sa := sa) hfl hI hH hwn (k := i) (by omega)) (cwV 2 hts gL_isWorkerSo_X8_due rfl rfl rfl (by decide +kernel) ⟨Nat.le_of_ble_eq_true rfl, Nat.le_of_ble_eq_true rfl⟩) (ci := 8) rfl rfl hH.x rfl hl.1 rfl (Nat.le_of_ble_eq_true rfl) dL_isWorkerSo_123 ⟨by show 5 + 28 * i + 3 + 0 + 2 + 3 + 2 ≤ 875; omega, by show 30 + 168 * i + 18 + 0 + 12 + 18 + 12 ≤ 5250; omega⟩ (fun r79 f80 H locs hp81 hw => ?_)
      obtain ⟨hp81a, hp81b⟩ := hp81
      rw [hp81b] at hw
      rw [hp81a]
      refine lv_if_lt (tgt := 221) hx hb dL_isWorkerSo_126 (by decide) (fun c_82 => absurd c_82 (b1)) (fun _ => ?_)
      refine lv_iload hx hb dL_isWorkerSo_129 (lv_at hl 3 rfl) ?_
      refine lv_if_lt (tgt := 221) hx hb dL_isWorkerSo_131 (by decide) (fun c_83 => absurd c_83 (b2)) (fun _ => ?_)
      refine lv_aload_n hx hb dL_isWorkerSo_134 rfl (lv_at hl 6 rfl) ?_
      refine lv_iload_n hx hb dL_isWorkerSo_135 rfl (lv_at hl 7 rfl) ?_
      refine lv_iload hx hb dL_isWorkerSo_136 (lv_at hl 4 rfl) ?_
      refine lv_iconst (v := 1) hx hb dL_isWorkerSo_138 (by decide) ?_
      refine fw_callVi hx hb hml hown hts hE hw [.int (nI w), .int (nI i), .int 1] [] (rd_slip (l := l) (D := D) (A := A) (sa := sa) hfl hI hH hwn (k := i) (by omega) (pt := 1) (by omega)) (cwV 3 hts gL_isWorkerSo_X8_slip rfl rfl rfl (by decide +kernel) ⟨Nat.le_of_ble_eq_true rfl, Nat.le_of_ble_eq_true rfl⟩) (ci := 8) rfl rfl hH.x rfl hl.1 rfl (Nat.le_of_ble_eq_true rfl) dL_isWorkerSo_139 ⟨by show 5 + 28 * i + 3 + 0 + 2 + 3 + 2 + 3 ≤ 875; omega, by show 30 + 168 * i + 18 + 0 + 12 + 18 + 12 + 18 ≤ 5250; omega⟩ (fun r84 f85 H locs hp86 hw => ?_)
      obtain ⟨hp86a, hp86b⟩ := hp86
      rw [hp86b] at hw
      rw [hp86a]
      refine lv_iload hx hb dL_isWorkerSo_142 (lv_at hl 3 rfl) ?_
      refine lv_bipush (v := 10) hx hb dL_isWorkerSo_144 (by decide) ?_
      refine lv_idiv hx hb dL_isWorkerSo_146 (by decide) ?_
      refine lv_icmp_gt (tgt := 221) hx hb dL_isWorkerSo_147 (by decide) (fun c_87 => absurd c_87 (b3)) (fun _ => ?_)
      refine lv_aload_n hx hb dL_isWorkerSo_150 rfl (lv_at hl 6 rfl) ?_
      refine lv_iload_n hx hb dL_isWorkerSo_151 rfl (lv_at hl 7 rfl) ?_
      refine lv_iload hx hb dL_isWorkerSo_152 (lv_at hl 4 rfl) ?_
      refine lv_iconst (v := 2) hx hb dL_isWorkerSo_154 (by decide) ?_
      refine fw_callVi hx hb hml hown hts hE hw [.int (nI w), .int (nI i), .int 2] [] (rd_slip (l := l) (D := D) (A := A) (sa := sa) hfl hI hH hwn (k := i) (by omega) (pt := 2) (by omega)) (cwV 3 hts gL_isWorkerSo_X8_slip rfl rfl rfl (by decide +kernel) ⟨Nat.le_of_ble_eq_true rfl, Nat.le_of_ble_eq_true rfl⟩) (ci := 8) rfl rfl hH.x rfl hl.1 rfl (Nat.le_of_ble_eq_true rfl) dL_isWorkerSo_155 ⟨by show 5 + 28 * i + 3 + 0 + 2 + 3 + 2 + 3 + 3 ≤ 875; omega, by show 30 + 168 * i + 18 + 0 + 12 + 18 + 12 + 18 + 18 ≤ 5250; omega⟩ (fun r88 f89 H locs hp90 hw => ?_)
      obtain ⟨hp90a, hp90b⟩ := hp90
      rw [hp90b] at hw
      rw [hp90a]
      refine lv_if_lt (tgt := 221) hx hb dL_isWorkerSo_158 (by decide) (fun c_91 => absurd c_91 (b4)) (fun _ => ?_)
      refine lv_aload_n hx hb dL_isWorkerSo_161 rfl (lv_at hl 6 rfl) ?_
      refine lv_iload_n hx hb dL_isWorkerSo_162 rfl (lv_at hl 7 rfl) ?_
      refine lv_iload hx hb dL_isWorkerSo_163 (lv_at hl 4 rfl) ?_
      refine lv_iconst (v := 3) hx hb dL_isWorkerSo_165 (by decide) ?_
      refine fw_callVi hx hb hml hown hts hE hw [.int (nI w), .int (nI i), .int 3] [] (rd_slip (l := l) (D := D) (A := A) (sa := sa) hfl hI hH hwn (k := i) (by omega) (pt := 3) (by omega)) (cwV 3 hts gL_isWorkerSo_X8_slip rfl rfl rfl (by decide +kernel) ⟨Nat.le_of_ble_eq_true rfl, Nat.le_of_ble_eq_true rfl⟩) (ci := 8) rfl rfl hH.x rfl hl.1 rfl (Nat.le_of_ble_eq_true rfl) dL_isWorkerSo_166 ⟨by show 5 + 28 * i + 3 + 0 + 2 + 3 + 2 + 3 + 3 + 3 ≤ 875; omega, by show 30 + 168 * i + 18 + 0 + 12 + 18 + 12 + 18 + 18 + 18 ≤ 5250; omega⟩ (fun r92 f93 H locs hp94 hw => ?_)
      obtain ⟨hp94a, hp94b⟩ := hp94
      rw [hp94b] at hw
      rw [hp94a]
      refine lv_if_lt (tgt := 221) hx hb dL_isWorkerSo_169 (by decide) (fun c_95 => absurd c_95 (b5)) (fun _ => ?_)
      refine lv_iload hx hb dL_isWorkerSo_172 (lv_at hl 3 rfl) ?_
      refine lv_aload_n hx hb dL_isWorkerSo_174 rfl (lv_at hl 6 rfl) ?_
      refine lv_iload_n hx hb dL_isWorkerSo_175 rfl (lv_at hl 7 rfl) ?_
      refine lv_iload hx hb dL_isWorkerSo_176 (lv_at hl 4 rfl) ?_
      refine lv_iconst (v := 1) hx hb dL_isWorkerSo_178 (by decide) ?_
      refine fw_callVi hx hb hml hown hts hE hw [.int (nI w), .int (nI i), .int 1] [.int (spC S.2.2.2.2 w i 0)] (rd_slip (l := l) (D := D) (A := A) (sa := sa) hfl hI hH hwn (k := i) (by omega) (pt := 1) (by omega)) (cwV 3 hts gL_isWorkerSo_X8_slip rfl rfl rfl (by decide +kernel) ⟨Nat.le_of_ble_eq_true rfl, Nat.le_of_ble_eq_true rfl⟩) (ci := 8) rfl rfl hH.x rfl hl.1 rfl (Nat.le_of_ble_eq_true rfl) dL_isWorkerSo_179 ⟨by show 5 + 28 * i + 3 + 0 + 2 + 3 + 2 + 3 + 3 + 3 + 3 ≤ 875; omega, by show 30 + 168 * i + 18 + 0 + 12 + 18 + 12 + 18 + 18 + 18 + 18 ≤ 5250; omega⟩ (fun r96 f97 H locs hp98 hw => ?_)
      obtain ⟨hp98a, hp98b⟩ := hp98
      rw [hp98b] at hw
      rw [hp98a]
      refine lv_aload_n hx hb dL_isWorkerSo_182 rfl (lv_at hl 6 rfl) ?_
      refine lv_iload_n hx hb dL_isWorkerSo_183 rfl (lv_at hl 7 rfl) ?_
      refine lv_iload hx hb dL_isWorkerSo_184 (lv_at hl 4 rfl) ?_
      refine lv_iconst (v := 2) hx hb dL_isWorkerSo_186 (by decide) ?_
      refine fw_callVi hx hb hml hown hts hE hw [.int (nI w), .int (nI i), .int 2] [.int (spC S.2.2.2.2 w i 1), .int (spC S.2.2.2.2 w i 0)] (rd_slip (l := l) (D := D) (A := A) (sa := sa) hfl hI hH hwn (k := i) (by omega) (pt := 2) (by omega)) (cwV 3 hts gL_isWorkerSo_X8_slip rfl rfl rfl (by decide +kernel) ⟨Nat.le_of_ble_eq_true rfl, Nat.le_of_ble_eq_true rfl⟩) (ci := 8) rfl rfl hH.x rfl hl.1 rfl (Nat.le_of_ble_eq_true rfl) dL_isWorkerSo_187 ⟨by show 5 + 28 * i + 3 + 0 + 2 + 3 + 2 + 3 + 3 + 3 + 3 + 3 ≤ 875; omega, by show 30 + 168 * i + 18 + 0 + 12 + 18 + 12 + 18 + 18 + 18 + 18 + 18 ≤ 5250; omega⟩ (fun r99 f100 H locs hp101 hw => ?_)
      obtain ⟨hp101a, hp101b⟩ := hp101
      rw [hp101b] at hw
      rw [hp101a]
      refine lv_iadd hx hb dL_isWorkerSo_190 ?_
      refine lv_aload_n hx hb dL_isWorkerSo_191 rfl (lv_at hl 6 rfl) ?_
      refine lv_iload_n hx hb dL_isWorkerSo_192 rfl (lv_at hl 7 rfl) ?_
      refine lv_iload hx hb dL_isWorkerSo_193 (lv_at hl 4 rfl) ?_
      refine lv_iconst (v := 3) hx hb dL_isWorkerSo_195 (by decide) ?_
      refine fw_callVi hx hb hml hown hts hE hw [.int (nI w), .int (nI i), .int 3] [.int ((spC S.2.2.2.2 w i 1) + (spC S.2.2.2.2 w i 2)), .int (spC S.2.2.2.2 w i 0)] (rd_slip (l := l) (D := D) (A := A) (sa := sa) hfl hI hH hwn (k := i) (by omega) (pt := 3) (by omega)) (cwV 3 hts gL_isWorkerSo_X8_slip rfl rfl rfl (by decide +kernel) ⟨Nat.le_of_ble_eq_true rfl, Nat.le_of_ble_eq_true rfl⟩) (ci := 8) rfl rfl hH.x rfl hl.1 rfl (Nat.le_of_ble_eq_true rfl) dL_isWorkerSo_196 ⟨by show 5 + 28 * i + 3 + 0 + 2 + 3 + 2 + 3 + 3 + 3 + 3 + 3 + 3 ≤ 875; omega, by show 30 + 168 * i + 18 + 0 + 12 + 18 + 12 + 18 + 18 + 18 + 18 + 18 + 18 ≤ 5250; omega⟩ (fun r102 f103 H locs hp104 hw => ?_)
      obtain ⟨hp104a, hp104b⟩ := hp104
      rw [hp104b] at hw
      rw [hp104a]
      refine lv_iadd hx hb dL_isWorkerSo_199 ?_
      refine lv_icmp_ne (tgt := 221) hx hb dL_isWorkerSo_200 (by decide) (fun c_105 => absurd (b6) c_105) (fun _ => ?_)
      refine lv_iload hx hb dL_isWorkerSo_203 (lv_at hl 4 rfl) ?_
      refine lv_aload_n hx hb dL_isWorkerSo_205 rfl (lv_at hl 6 rfl) ?_
      refine fw_callVi hx hb hml hown hts hE hw [] [.int (nI i)] (rd_week (l := l) (D := D) (A := A) (sa := sa) hH ) (cwV 0 hts gL_isWorkerSo_X8_week rfl rfl rfl (by decide +kernel) ⟨Nat.le_of_ble_eq_true rfl, Nat.le_of_ble_eq_true rfl⟩) (ci := 8) rfl rfl hH.x rfl hl.1 rfl (Nat.le_of_ble_eq_true rfl) dL_isWorkerSo_206 ⟨by show 5 + 28 * i + 3 + 0 + 2 + 3 + 2 + 3 + 3 + 3 + 3 + 3 + 3 + 0 ≤ 875; omega, by show 30 + 168 * i + 18 + 0 + 12 + 18 + 12 + 18 + 18 + 18 + 18 + 18 + 18 + 0 ≤ 5250; omega⟩ (fun r106 f107 H locs hp108 hw => ?_)
      obtain ⟨hp108a, hp108b⟩ := hp108
      rw [hp108b] at hw
      rw [hp108a]
      rcases Nat.lt_or_ge i S.2.2.2.1 with hj | hj
      · refine lv_icmp_lt (tgt := 217) hx hb dL_isWorkerSo_209 (by decide) (fun _ => ?_) (fun c_109 => absurd (nI_lt hj (by omega)) c_109)
        refine lv_iconst (v := 1) hx hb dL_isWorkerSo_217 (by decide) ?_
        refine lv_goto (tgt := 222) hx hb dL_isWorkerSo_218 (by decide) ?_
        refine lv_istore (lv' := [(5, .int 1), (4, .int ((gS (fun k => spC S.2.2.2.2 w k 1) i) + (spC S.2.2.2.2 w i 1))), (3, .int ((gS (fun k => spC S.2.2.2.2 w k 0) i) + (spC S.2.2.2.2 w i 0))), (2, .int (gS (dF S w) (i + 1))), (7, .int (spC S.2.2.2.2 w i 0)), (6, .int (nI i)), (0, .ref (α 0 0 0)), (1, .int (nI w))]) hx hb dL_isWorkerSo_222 hl (by decide) rfl (fun ls hl => ?_)
        refine lv_iinc (v := (nI (i + 1))) (lv' := [(6, .int (nI (i + 1))), (5, .int 1), (4, .int ((gS (fun k => spC S.2.2.2.2 w k 1) i) + (spC S.2.2.2.2 w i 1))), (3, .int ((gS (fun k => spC S.2.2.2.2 w k 0) i) + (spC S.2.2.2.2 w i 0))), (2, .int (gS (dF S w) (i + 1))), (7, .int (spC S.2.2.2.2 w i 0)), (0, .ref (α 0 0 0)), (1, .int (nI w))]) hx hb dL_isWorkerSo_224 hl (k := 5) rfl (nI_1 (i)) (by decide) rfl (fun ls hl => ?_)
        refine lv_goto (tgt := 56) hx hb dL_isWorkerSo_227 (by decide) ?_
        refine W.widen (k := 5 + 28 * (i + 1)) (n := 30 + 168 * (i + 1)) (by omega) (by omega) ?_
        exact IH (i + 1) H locs ls (by omega) (by omega) hw (lv_sub hl [0, 1, 2, 3, 4, 6, 7] rfl)
      · refine lv_icmp_lt (tgt := 217) hx hb dL_isWorkerSo_209 (by decide) (fun c_110 => absurd c_110 (fun z => absurd (nI_ltr z (by omega) (by omega)) (by omega))) (fun _ => ?_)
        refine lv_iload hx hb dL_isWorkerSo_212 (lv_at hl 3 rfl) ?_
        refine lv_if_ne (tgt := 221) hx hb dL_isWorkerSo_214 (by decide) (fun c_111 => absurd (b7 hj) c_111) (fun _ => ?_)
        refine lv_iconst (v := 1) hx hb dL_isWorkerSo_217 (by decide) ?_
        refine lv_goto (tgt := 222) hx hb dL_isWorkerSo_218 (by decide) ?_
        refine lv_istore (lv' := [(5, .int 1), (4, .int ((gS (fun k => spC S.2.2.2.2 w k 1) i) + (spC S.2.2.2.2 w i 1))), (3, .int ((gS (fun k => spC S.2.2.2.2 w k 0) i) + (spC S.2.2.2.2 w i 0))), (2, .int (gS (dF S w) (i + 1))), (7, .int (spC S.2.2.2.2 w i 0)), (6, .int (nI i)), (0, .ref (α 0 0 0)), (1, .int (nI w))]) hx hb dL_isWorkerSo_222 hl (by decide) rfl (fun ls hl => ?_)
        refine lv_iinc (v := (nI (i + 1))) (lv' := [(6, .int (nI (i + 1))), (5, .int 1), (4, .int ((gS (fun k => spC S.2.2.2.2 w k 1) i) + (spC S.2.2.2.2 w i 1))), (3, .int ((gS (fun k => spC S.2.2.2.2 w k 0) i) + (spC S.2.2.2.2 w i 0))), (2, .int (gS (dF S w) (i + 1))), (7, .int (spC S.2.2.2.2 w i 0)), (0, .ref (α 0 0 0)), (1, .int (nI w))]) hx hb dL_isWorkerSo_224 hl (k := 5) rfl (nI_1 (i)) (by decide) rfl (fun ls hl => ?_)
        refine lv_goto (tgt := 56) hx hb dL_isWorkerSo_227 (by decide) ?_
        refine W.widen (k := 5 + 28 * (i + 1)) (n := 30 + 168 * (i + 1)) (by omega) (by omega) ?_
        exact IH (i + 1) H locs ls (by omega) (by omega) hw (lv_sub hl [0, 1, 2, 3, 4, 6, 7] rfl)
  · obtain rfl : i = 31 := by omega
    refine lv_iload hx hb dL_isWorkerSo_56 (lv_at hl 0 rfl) ?_
    refine lv_bipush (v := 31) hx hb dL_isWorkerSo_58 (by decide) ?_
    refine lv_icmp_ge (tgt := 230) hx hb dL_isWorkerSo_60 (by decide) (fun _ => ?_) (fun c_112 => absurd (show (31 : Int32) ≤ nI 31 from by decide) c_112)
    refine lv_iload hx hb dL_isWorkerSo_230 (lv_at hl 1 rfl) ?_
    refine lv_if_eq (tgt := 259) hx hb dL_isWorkerSo_232 (by decide) (fun c_113 => absurd c_113 (by decide)) (fun _ => ?_)
    refine lv_aload_n hx hb dL_isWorkerSo_235 rfl (lv_at hl 5 rfl) ?_
    refine lv_iload_n hx hb dL_isWorkerSo_236 rfl (lv_at hl 6 rfl) ?_
    refine fw_callVi hx hb hml hown hts hE hw [.int (nI w)] [] (rd_claim (l := l) (D := D) (A := A) (sa := sa) hfl hI hH hwn) (cwV 1 hts gL_isWorkerSo_X8_claim rfl rfl rfl (by decide +kernel) ⟨Nat.le_of_ble_eq_true rfl, Nat.le_of_ble_eq_true rfl⟩) (ci := 8) rfl rfl hH.x rfl hl.1 rfl (Nat.le_of_ble_eq_true rfl) dL_isWorkerSo_237 ⟨by show 5 + 28 * 31 + 1 ≤ 875; omega, by show 30 + 168 * 31 + 6 ≤ 5250; omega⟩ (fun r114 f115 H locs hp116 hw => ?_)
    obtain ⟨hp116a, hp116b⟩ := hp116
    rw [hp116b] at hw
    rw [hp116a]
    refine lv_iload_n hx hb dL_isWorkerSo_240 rfl (lv_at hl 4 rfl) ?_
    refine lv_iload_n hx hb dL_isWorkerSo_241 rfl (lv_at hl 3 rfl) ?_
    refine lv_isub hx hb dL_isWorkerSo_242 ?_
    refine lv_iload hx hb dL_isWorkerSo_243 (lv_at hl 2 rfl) ?_
    refine lv_iadd hx hb dL_isWorkerSo_245 ?_
    refine lv_aload_n hx hb dL_isWorkerSo_246 rfl (lv_at hl 5 rfl) ?_
    refine lv_iload_n hx hb dL_isWorkerSo_247 rfl (lv_at hl 6 rfl) ?_
    refine fw_callVi hx hb hml hown hts hE hw [.int (nI w)] [.int (((gS (dF S w) 31) - (gS (fun k => spC S.2.2.2.2 w k 0) 31)) + (gS (fun k => spC S.2.2.2.2 w k 1) 31)), .int (clC S.2.2.2.2 S.2.2.2.1 w)] (rd_toTakeBack (l := l) (D := D) (A := A) (sa := sa) hfl hI hH hwn) (cwV 1 hts gL_isWorkerSo_X8_toTakeBack rfl rfl rfl (by decide +kernel) ⟨Nat.le_of_ble_eq_true rfl, Nat.le_of_ble_eq_true rfl⟩) (ci := 8) rfl rfl hH.x rfl hl.1 rfl (Nat.le_of_ble_eq_true rfl) dL_isWorkerSo_248 ⟨by show 5 + 28 * 31 + 1 + 1 ≤ 875; omega, by show 30 + 168 * 31 + 6 + 6 ≤ 5250; omega⟩ (fun r117 f118 H locs hp119 hw => ?_)
    obtain ⟨hp119a, hp119b⟩ := hp119
    rw [hp119b] at hw
    rw [hp119a]
    refine lv_iadd hx hb dL_isWorkerSo_251 ?_
    refine lv_icmp_ne (tgt := 259) hx hb dL_isWorkerSo_252 (by decide) (fun c_120 => absurd (o6) c_120) (fun _ => ?_)
    refine lv_iconst (v := 1) hx hb dL_isWorkerSo_255 (by decide) ?_
    refine lv_goto (tgt := 260) hx hb dL_isWorkerSo_256 (by decide) ?_
    exact fw_zret hx hb hr hlocks hw (by omega) (by omega) (by decide +kernel) dL_isWorkerSo_260 (⟨rfl, rfl⟩)
