def pyC (κ : cS) (w i : Nat) : Int32 := κ 8 w i * κ 2 (2 * (κ 5 w (κ 7 w i).toNatClampNeg).toNatClampNeg) (κ 7 w i).toNatClampNeg + κ 9 w i * κ 2 (2 * (κ 5 w (κ 7 w i).toNatClampNeg).toNatClampNeg + 1) (κ 7 w i).toNatClampNeg
/-- what the first n sheets of w pay, of the weeks a to b -/
def dsC (κ : cS) (w : Nat) (a b : Int32) : Nat → Int32
  | 0 => 0
  | n + 1 => dsC κ w a b n + (if ¬ κ 7 w n = -1 ∧ ¬ κ 7 w n < a ∧ ¬ b < κ 7 w n then pyC κ w n else 0)
def duC (κ : cS) (w : Nat) (a b : Int32) : Int32 := dsC κ w a b (κ 4 w 1).toNatClampNeg
def clC (κ : cS) (wk w : Nat) : Int32 := duC κ w 0 (nI wk) - κ 4 w 2
theorem iX8_payFor_2 : ∀ w ∈ wsX20, w ∈ wsX8_payFor := by decide +kernel
theorem iX8_payFor_4 : ∀ w ∈ wsX40, w ∈ wsX8_payFor := by decide +kernel
set_option maxHeartbeats 4000000 in
set_option maxRecDepth 100000 in
/-- payFor -/
theorem c_X8_payFor (l : Launch) (D : va_G) (A : Nat → Prop) (y : Nat → ClassId) (sa : Nat → Nat) (f : fw_F) (s1 r1 q d1 n1 dv1 dt1 nv1 nt1 : Nat) (dv nv : Int32) (gd gn : Nat → Int32) (hq31 : q < 31) (hs1 : f s1 = some (.inr (4, [.int (nI q), .int dv, .int nv]))) (hr1 : f r1 = some (.inr (2, [.ref d1, .ref n1]))) (hd1 : f d1 = some (.inr (3, [.ref dv1, .ref dt1]))) (hn1 : f n1 = some (.inr (3, [.ref nv1, .ref nt1]))) (hdv1 : f dv1 = some (.inl (y 0, 31, .inl gd))) (hnv1 : f nv1 = some (.inl (y 0, 31, .inl gn))) : Met l yX8_payFor wsX8_payFor ({ frames := 1, cells := 0, slots := 0, locals := 21 } : Room) (cPc D A y sa f [.ref s1, .ref r1]) (cQi D A (fun r f1 => r = dv * gd q + nv * gn q ∧ f1 = f)) 0 0 A := by
  refine fw_met (by decide) rfl [.ref s1, .ref r1] (Nat.le_of_ble_eq_true rfl) ?_
  intro p e s m args below meth c ls I hin hE hw hl
  obtain ⟨hx, hb, hr, hts, hown, hlocks, hml⟩ := I
  have hown : s.vm.findClass RX8 = some m.cls := hown
  have hl : lv_has ls 2 [(0, .ref s1), (1, .ref r1)] := hl
  refine lv_aload_n hx hb dX8_payFor_0 rfl (lv_at hl 1 rfl) ?_
  refine lv_ifnonnull (tgt := 6) hx hb dX8_payFor_1 (by decide) ?_
  refine lv_aload_n hx hb dX8_payFor_6 rfl (lv_at hl 0 rfl) ?_
  refine fw_get hx hb hts hown hE.1.1 hw (ci := 4) (fs := [.int (nI q), .int dv, .int nv]) (v := .int dv) hs1 iX8_payFor_4 rfl 1 (by decide) rfl (by decide +kernel) dX8_payFor_7 ?_
  refine lv_aload_n hx hb dX8_payFor_10 rfl (lv_at hl 1 rfl) ?_
  refine fw_get hx hb hts hown hE.1.1 hw (ci := 2) (fs := [.ref d1, .ref n1]) (v := .ref d1) hr1 iX8_payFor_2 rfl 0 (by decide) rfl (by decide +kernel) dX8_payFor_11 ?_
  refine lv_aload_n hx hb dX8_payFor_14 rfl (lv_at hl 0 rfl) ?_
  refine fw_get hx hb hts hown hE.1.1 hw (ci := 4) (fs := [.int (nI q), .int dv, .int nv]) (v := .int (nI q)) hs1 iX8_payFor_4 rfl 0 (by decide) rfl (by decide +kernel) dX8_payFor_15 ?_
  refine fw_callVi hx hb hml hown hts hE hw [.int (nI q)] [.int dv] (c_X3_inWeek l D A y sa f d1 dv1 dt1 q gd hq31 hd1 hdv1) (cwV 1 hts gX8_payFor_X3_inWeek rfl rfl rfl (by decide +kernel) ⟨Nat.le_of_ble_eq_true rfl, Nat.le_of_ble_eq_true rfl⟩) (ci := 3) rfl rfl hd1 rfl hl.1 rfl (Nat.le_of_ble_eq_true rfl) dX8_payFor_18 ⟨Nat.le_of_ble_eq_true rfl, Nat.le_of_ble_eq_true rfl⟩ (fun r1 f2 H locs hp3 hw => ?_)
  obtain ⟨hp3a, hp3b⟩ := hp3
  rw [hp3b] at hw
  rw [hp3a]
  refine lv_imul hx hb dX8_payFor_21 ?_
  refine lv_aload_n hx hb dX8_payFor_22 rfl (lv_at hl 0 rfl) ?_
  refine fw_get hx hb hts hown hE.1.1 hw (ci := 4) (fs := [.int (nI q), .int dv, .int nv]) (v := .int nv) hs1 iX8_payFor_4 rfl 2 (by decide) rfl (by decide +kernel) dX8_payFor_23 ?_
  refine lv_aload_n hx hb dX8_payFor_26 rfl (lv_at hl 1 rfl) ?_
  refine fw_get hx hb hts hown hE.1.1 hw (ci := 2) (fs := [.ref d1, .ref n1]) (v := .ref n1) hr1 iX8_payFor_2 rfl 1 (by decide) rfl (by decide +kernel) dX8_payFor_27 ?_
  refine lv_aload_n hx hb dX8_payFor_30 rfl (lv_at hl 0 rfl) ?_
  refine fw_get hx hb hts hown hE.1.1 hw (ci := 4) (fs := [.int (nI q), .int dv, .int nv]) (v := .int (nI q)) hs1 iX8_payFor_4 rfl 0 (by decide) rfl (by decide +kernel) dX8_payFor_31 ?_
  refine fw_callVi hx hb hml hown hts hE hw [.int (nI q)] [.int nv, .int (dv * (gd q))] (c_X3_inWeek l D A y sa f n1 nv1 nt1 q gn hq31 hn1 hnv1) (cwV 1 hts gX8_payFor_X3_inWeek rfl rfl rfl (by decide +kernel) ⟨Nat.le_of_ble_eq_true rfl, Nat.le_of_ble_eq_true rfl⟩) (ci := 3) rfl rfl hn1 rfl hl.1 rfl (Nat.le_of_ble_eq_true rfl) dX8_payFor_34 ⟨Nat.le_of_ble_eq_true rfl, Nat.le_of_ble_eq_true rfl⟩ (fun r4 f5 H locs hp6 hw => ?_)
  obtain ⟨hp6a, hp6b⟩ := hp6
  rw [hp6b] at hw
  rw [hp6a]
  refine lv_imul hx hb dX8_payFor_37 ?_
  refine lv_iadd hx hb dX8_payFor_38 ?_
  exact fw_iret hx hb hr hlocks hw (Nat.le_of_ble_eq_true rfl) (Nat.le_of_ble_eq_true rfl) dX8_payFor_39 (⟨rfl, rfl⟩)

theorem iX8_dueBetween_4 : ∀ w ∈ wsX40, w ∈ wsX8_dueBetween := by decide +kernel
theorem iX8_dueBetween_7 : ∀ w ∈ wsX70, w ∈ wsX8_dueBetween := by decide +kernel
set_option maxHeartbeats 4000000 in
set_option maxRecDepth 100000 in
/-- dueBetween -/
theorem c_X8_dueBetween (l : Launch) (D : va_G) (A : Nat → Prop) (y : Nat → ClassId) (sa : Nat → Nat) (f : fw_F) (α : Nat → Nat → Nat → Nat) (κ : cS) (nw no nt wk : Nat) (w : Nat) (p1 p2 : Int32) (hwn : w < nw) (hI : Ic nw no nt wk κ) (hR : Rc y nw no nt wk κ α f) : Met l yX8_dueBetween wsX8_dueBetween ({ frames := 2, cells := 0, slots := 0, locals := 42 } : Room) (cPc D A y sa f [.ref (α 0 0 0), .ref (α 3 w 0), .int p1, .int p2]) (cQi D A (fun r f1 => r = duC κ w p1 p2 ∧ f1 = f)) 0 0 A := by
  refine fw_met (by decide) rfl [.ref (α 0 0 0), .ref (α 3 w 0), .int p1, .int p2] (Nat.le_of_ble_eq_true rfl) ?_
  intro p e s m args below meth c ls I hin hE hw hl
  obtain ⟨hx, hb, hr, hts, hown, hlocks, hml⟩ := I
  have hown : s.vm.findClass RX8 = some m.cls := hown
  have hl : lv_has ls 7 [(0, .ref (α 0 0 0)), (1, .ref (α 3 w 0)), (2, .int p1), (3, .int p2)] := hl
  obtain ⟨hI1, hI2, hI3, hI4, hI5, hI6, hI7, hI8, hI9, hI10⟩ := id hI
  refine lv_iconst (v := 0) hx hb dX8_dueBetween_0 (by decide) ?_
  refine lv_istore (lv' := [(4, .int 0), (0, .ref (α 0 0 0)), (1, .ref (α 3 w 0)), (2, .int p1), (3, .int p2)]) hx hb dX8_dueBetween_1 hl (by decide) rfl (fun ls hl => ?_)
  refine lv_iconst (v := 0) hx hb dX8_dueBetween_3 (by decide) ?_
  refine lv_istore (lv' := [(5, .int 0), (4, .int 0), (0, .ref (α 0 0 0)), (1, .ref (α 3 w 0)), (2, .int p1), (3, .int p2)]) hx hb dX8_dueBetween_4 hl (by decide) rfl (fun ls hl => ?_)
  obtain ⟨cn, hcn20, hcn⟩ := hI6 w hwn
  refine fw_loop 6 7 (fun r : Nat => 20 - r) (fun r => r ≤ cn) (fun r => f) (fun r => [(5, .int (nI r)), (4, .int (dsC κ w p1 p2 r)), (0, .ref (α 0 0 0)), (1, .ref (α 3 w 0)), (2, .int p1), (3, .int p2)]) (fun r => []) (fun r => 0) (fun r => 0) (fun i H locs ls hP hw hl IH => ?_) 0 s.heap [] ls (Nat.zero_le _) hw (lv_sub hl [0, 1, 2, 3, 4, 5] rfl)
  try dsimp only at hP
  try dsimp only at hw
  try dsimp only at hl
  try dsimp only at IH
  try dsimp only at ⊢
  refine lv_iload hx hb dX8_dueBetween_6 (lv_at hl 0 rfl) ?_
  refine lv_aload_n hx hb dX8_dueBetween_8 rfl (lv_at hl 3 rfl) ?_
  refine fw_get hx hb hts hown hE.1.1 hw (ci := 7) (fs := [.ref (α 1 (κ 4 w 0).toNatClampNeg 0), .ref (α 3 w 1), .int (κ 4 w 1), .int (κ 4 w 2), .int (κ 4 w 3), .int (κ 4 w 4), .ref (α 3 w 4), .ref (α 3 w 5)]) (v := .int (κ 4 w 1)) (hR.w0 hwn) iX8_dueBetween_7 rfl 2 (by decide) rfl (by decide +kernel) dX8_dueBetween_9 ?_
  rw [hcn]
  refine lv_icmp_ge (tgt := 78) hx hb dX8_dueBetween_12 (by decide) (fun c_1 => ?_) (fun c_1 => ?_)
  · have hic : i = cn := nI_eqn c_1 hP (by omega)
    refine lv_iload hx hb dX8_dueBetween_78 (lv_at hl 1 rfl) ?_
    exact fw_iret hx hb hr hlocks hw (Nat.le_of_ble_eq_true rfl) (Nat.le_of_ble_eq_true rfl) dX8_dueBetween_80 (⟨by unfold duC; rw [hcn, nI_clamp (n := cn) (by omega), hic], rfl⟩)
  · have hic : i < cn := nI_hi c_1 (by omega)
    refine lv_aload_n hx hb dX8_dueBetween_15 rfl (lv_at hl 3 rfl) ?_
    refine lv_iload hx hb dX8_dueBetween_16 (lv_at hl 0 rfl) ?_
    refine fw_callVq hx hb hml hown hts hE hw [.int (nI i)] [] (c_X7_sheet l D A y sa f (α 3 w 0) (α 1 (κ 4 w 0).toNatClampNeg 0) (α 3 w 1) (α 3 w 4) (α 3 w 5) (κ 4 w 1) (κ 4 w 2) (κ 4 w 3) (κ 4 w 4) (nI i) (shRow κ α w) (hR.w0 hwn) (hR.w4 hwn)) (cwV 1 hts gX8_dueBetween_X7_sheet rfl rfl rfl (by decide +kernel) ⟨Nat.le_of_ble_eq_true rfl, Nat.le_of_ble_eq_true rfl⟩) (ci := 7) rfl rfl (hR.w0 hwn) rfl hl.1 rfl (Nat.le_of_ble_eq_true rfl) dX8_dueBetween_18 ⟨Nat.le_of_ble_eq_true rfl, Nat.le_of_ble_eq_true rfl⟩ (fun r2 f3 H locs hp4 hw => ?_)
    obtain ⟨hp4a, hp4b⟩ := hp4
    rw [hp4b] at hw
    rw [if_pos ⟨nI_pos' (by omega), nI_lt (b := 20) (by omega) (by decide)⟩, nI_clamp (n := i) (by omega)] at hp4a
    by_cases hs : κ 7 w i = -1
    · rw [hp4a, show shRow κ α w i = none from if_neg (fun z => z.2 hs)]
      refine lv_astoreN (lv' := [(6, .null), (5, .int (nI i)), (4, .int (dsC κ w p1 p2 i)), (0, .ref (α 0 0 0)), (1, .ref (α 3 w 0)), (2, .int p1), (3, .int p2)]) hx hb dX8_dueBetween_21 hl (by decide) rfl (fun ls hl => ?_)
      refine lv_aloadN hx hb dX8_dueBetween_23 (lv_at hl 0 rfl) ?_
      refine lv_ifnullN (tgt := 72) hx hb dX8_dueBetween_25 (by decide) ?_
      refine lv_iinc (v := (nI (i + 1))) (lv' := [(5, .int (nI (i + 1))), (6, .null), (4, .int (dsC κ w p1 p2 i)), (0, .ref (α 0 0 0)), (1, .ref (α 3 w 0)), (2, .int p1), (3, .int p2)]) hx hb dX8_dueBetween_72 hl (k := 1) rfl (nI_1 (i)) (by decide) rfl (fun ls hl => ?_)
      refine lv_goto (tgt := 6) hx hb dX8_dueBetween_75 (by decide) ?_
      have hds : dsC κ w p1 p2 (i + 1) = (dsC κ w p1 p2 i) := by show dsC κ w p1 p2 i + (if ¬ κ 7 w i = -1 ∧ ¬ κ 7 w i < p1 ∧ ¬ p2 < κ 7 w i then pyC κ w i else 0) = _; rw [if_neg (fun z => z.1 hs)]; exact Int32.add_zero _
      exact IH (i + 1) _ _ _ (by omega) (by omega) hw (by rw [hds]; exact lv_sub hl [0, 2, 3, 4, 5, 6] rfl)
    · rw [hp4a, show shRow κ α w i = some (α 4 w i) from if_pos ⟨by omega, hs⟩]
      refine lv_astore (lv' := [(6, .ref (α 4 w i)), (5, .int (nI i)), (4, .int (dsC κ w p1 p2 i)), (0, .ref (α 0 0 0)), (1, .ref (α 3 w 0)), (2, .int p1), (3, .int p2)]) hx hb dX8_dueBetween_21 hl (by decide) rfl (fun ls hl => ?_)
      refine lv_aload hx hb dX8_dueBetween_23 (lv_at hl 0 rfl) ?_
      refine lv_ifnull hx hb dX8_dueBetween_25 ?_
      refine lv_aload hx hb dX8_dueBetween_28 (lv_at hl 0 rfl) ?_
      refine fw_get hx hb hts hown hE.1.1 hw (ci := 4) (fs := [.int (κ 7 w i), .int (κ 8 w i), .int (κ 9 w i)]) (v := .int (κ 7 w i)) (hR.sh hwn (show i < 20 by omega) hs) iX8_dueBetween_4 rfl 0 (by decide) rfl (by decide +kernel) dX8_dueBetween_30 ?_
      refine lv_iload_n hx hb dX8_dueBetween_33 rfl (lv_at hl 5 rfl) ?_
      refine lv_icmp_lt (tgt := 72) hx hb dX8_dueBetween_34 (by decide) (fun c_5 => ?_) (fun c_5 => ?_)
      · refine lv_iinc (v := (nI (i + 1))) (lv' := [(5, .int (nI (i + 1))), (6, .ref (α 4 w i)), (4, .int (dsC κ w p1 p2 i)), (0, .ref (α 0 0 0)), (1, .ref (α 3 w 0)), (2, .int p1), (3, .int p2)]) hx hb dX8_dueBetween_72 hl (k := 1) rfl (nI_1 (i)) (by decide) rfl (fun ls hl => ?_)
        refine lv_goto (tgt := 6) hx hb dX8_dueBetween_75 (by decide) ?_
        have hds : dsC κ w p1 p2 (i + 1) = (dsC κ w p1 p2 i) := by show dsC κ w p1 p2 i + (if ¬ κ 7 w i = -1 ∧ ¬ κ 7 w i < p1 ∧ ¬ p2 < κ 7 w i then pyC κ w i else 0) = _; rw [if_neg (fun z => z.2.1 c_5)]; exact Int32.add_zero _
        exact IH (i + 1) _ _ _ (by omega) (by omega) hw (by rw [hds]; exact lv_sub hl [0, 2, 3, 4, 5, 6] rfl)
      · refine lv_aload hx hb dX8_dueBetween_37 (lv_at hl 0 rfl) ?_
        refine fw_get hx hb hts hown hE.1.1 hw (ci := 4) (fs := [.int (κ 7 w i), .int (κ 8 w i), .int (κ 9 w i)]) (v := .int (κ 7 w i)) (hR.sh hwn (show i < 20 by omega) hs) iX8_dueBetween_4 rfl 0 (by decide) rfl (by decide +kernel) dX8_dueBetween_39 ?_
        refine lv_iload_n hx hb dX8_dueBetween_42 rfl (lv_at hl 6 rfl) ?_
        refine lv_icmp_gt (tgt := 72) hx hb dX8_dueBetween_43 (by decide) (fun c_6 => ?_) (fun c_6 => ?_)
        · refine lv_iinc (v := (nI (i + 1))) (lv' := [(5, .int (nI (i + 1))), (6, .ref (α 4 w i)), (4, .int (dsC κ w p1 p2 i)), (0, .ref (α 0 0 0)), (1, .ref (α 3 w 0)), (2, .int p1), (3, .int p2)]) hx hb dX8_dueBetween_72 hl (k := 1) rfl (nI_1 (i)) (by decide) rfl (fun ls hl => ?_)
          refine lv_goto (tgt := 6) hx hb dX8_dueBetween_75 (by decide) ?_
          have hds : dsC κ w p1 p2 (i + 1) = (dsC κ w p1 p2 i) := by show dsC κ w p1 p2 i + (if ¬ κ 7 w i = -1 ∧ ¬ κ 7 w i < p1 ∧ ¬ p2 < κ 7 w i then pyC κ w i else 0) = _; rw [if_neg (fun z => z.2.2 c_6)]; exact Int32.add_zero _
          exact IH (i + 1) _ _ _ (by omega) (by omega) hw (by rw [hds]; exact lv_sub hl [0, 2, 3, 4, 5, 6] rfl)
        · obtain ⟨q, hq31, hq⟩ : ∃ q, q < 31 ∧ κ 7 w i = nI q := by rcases hI7 w hwn i (by omega) with z | z; exact absurd z hs; exact z
          have hsq : f (α 4 w i) = some (.inr (4, [.int (nI q), .int (κ 8 w i), .int (κ 9 w i)])) := by rw [← hq]; exact hR.sh hwn (show i < 20 by omega) hs
          obtain ⟨rk, hrk, hrkq⟩ := hI8 w hwn q hq31
          refine lv_iload hx hb dX8_dueBetween_46 (lv_at hl 2 rfl) ?_
          refine lv_aload hx hb dX8_dueBetween_48 (lv_at hl 0 rfl) ?_
          refine lv_aload_n hx hb dX8_dueBetween_50 rfl (lv_at hl 3 rfl) ?_
          refine lv_aload_n hx hb dX8_dueBetween_51 rfl (lv_at hl 4 rfl) ?_
          refine fw_get hx hb hts hown hE.1.1 hw (ci := 7) (fs := [.ref (α 1 (κ 4 w 0).toNatClampNeg 0), .ref (α 3 w 1), .int (κ 4 w 1), .int (κ 4 w 2), .int (κ 4 w 3), .int (κ 4 w 4), .ref (α 3 w 4), .ref (α 3 w 5)]) (v := .ref (α 3 w 1)) (hR.w0 hwn) iX8_dueBetween_7 rfl 1 (by decide) rfl (by decide +kernel) dX8_dueBetween_52 ?_
          refine lv_aload hx hb dX8_dueBetween_55 (lv_at hl 0 rfl) ?_
          refine fw_get hx hb hts hown hE.1.1 hw (ci := 4) (fs := [.int (nI q), .int (κ 8 w i), .int (κ 9 w i)]) (v := .int (nI q)) hsq iX8_dueBetween_4 rfl 0 (by decide) rfl (by decide +kernel) dX8_dueBetween_57 ?_
          refine fw_callVi hx hb hml hown hts hE hw [.int (nI q)] [.ref (α 0 0 0), .ref (α 4 w i), .int (dsC κ w p1 p2 i)] (c_X3_inWeek l D A y sa f (α 3 w 1) (α 3 w 2) (α 3 w 3) q (κ 5 w) hq31 (hR.w1 hwn) (hR.w2 hwn)) (cwV 1 hts gX8_dueBetween_X3_inWeek rfl rfl rfl (by decide +kernel) ⟨Nat.le_of_ble_eq_true rfl, Nat.le_of_ble_eq_true rfl⟩) (ci := 3) rfl rfl (hR.w1 hwn) rfl hl.1 rfl (Nat.le_of_ble_eq_true rfl) dX8_dueBetween_60 ⟨Nat.le_of_ble_eq_true rfl, Nat.le_of_ble_eq_true rfl⟩ (fun r7 f8 H locs hp9 hw => ?_)
          obtain ⟨hp9a, hp9b⟩ := hp9
          rw [hp9b] at hw
          rw [hp9a, hrkq]
          refine fw_callVq hx hb hml hown hts hE hw [.int (nI rk)] [.ref (α 4 w i), .int (dsC κ w p1 p2 i)] (c_X8_ratesOrNull l D A y sa f α κ nw no nt wk (nI rk) hR) (cwV 1 hts gX8_dueBetween_X8_ratesOrNull rfl rfl rfl (by decide +kernel) ⟨Nat.le_of_ble_eq_true rfl, Nat.le_of_ble_eq_true rfl⟩) (ci := 8) rfl rfl hR.x rfl hl.1 rfl (Nat.le_of_ble_eq_true rfl) dX8_dueBetween_63 ⟨Nat.le_of_ble_eq_true rfl, Nat.le_of_ble_eq_true rfl⟩ (fun r10 f11 H locs hp12 hw => ?_)
          obtain ⟨hp12a, hp12b⟩ : r10 = some (α 2 rk 0) ∧ f11 = f := by
            rcases hp12 with ⟨q2, z1, z2, z3, z4⟩ | ⟨z1, z2, z3⟩
            · have z5 := nI_inj2 z2 (by omega) (by omega); subst z5; exact ⟨z3, z4⟩
            · exact absurd (inr_nI (n := 2) (by omega) (by decide)) z1
          rw [hp12b] at hw
          rw [hp12a]
          refine fw_callSi hx hb hml hown hts hE hw [.ref (α 4 w i), .ref (α 2 rk 0)] [.int (dsC κ w p1 p2 i)] (c_X8_payFor l D A y sa f (α 4 w i) (α 2 rk 0) q (α 2 rk 1) (α 2 rk 4) (α 2 rk 2) (α 2 rk 3) (α 2 rk 5) (α 2 rk 6) (κ 8 w i) (κ 9 w i) (κ 2 (2 * rk)) (κ 2 (2 * rk + 1)) hq31 hsq (hR.r0 hrk) (hR.r1 hrk) (hR.r4 hrk) (hR.r2 hrk) (hR.r5 hrk)) (va_cwS 2 hts gX8_dueBetween_X8_payFor rfl rfl rfl (by decide +kernel) ⟨Nat.le_of_ble_eq_true rfl, Nat.le_of_ble_eq_true rfl⟩) rfl hl.1 rfl (Nat.le_of_ble_eq_true rfl) dX8_dueBetween_66 ⟨Nat.le_of_ble_eq_true rfl, Nat.le_of_ble_eq_true rfl⟩ (fun r13 f14 H locs hp15 hw => ?_)
          obtain ⟨hp15a, hp15b⟩ := hp15
          rw [hp15b] at hw
          rw [hp15a]
          refine lv_iadd hx hb dX8_dueBetween_69 ?_
          refine lv_istore (lv' := [(4, .int ((dsC κ w p1 p2 i) + (κ 8 w i * κ 2 (2 * rk) q + κ 9 w i * κ 2 (2 * rk + 1) q))), (6, .ref (α 4 w i)), (5, .int (nI i)), (0, .ref (α 0 0 0)), (1, .ref (α 3 w 0)), (2, .int p1), (3, .int p2)]) hx hb dX8_dueBetween_70 hl (by decide) rfl (fun ls hl => ?_)
          refine lv_iinc (v := (nI (i + 1))) (lv' := [(5, .int (nI (i + 1))), (4, .int ((dsC κ w p1 p2 i) + (κ 8 w i * κ 2 (2 * rk) q + κ 9 w i * κ 2 (2 * rk + 1) q))), (6, .ref (α 4 w i)), (0, .ref (α 0 0 0)), (1, .ref (α 3 w 0)), (2, .int p1), (3, .int p2)]) hx hb dX8_dueBetween_72 hl (k := 2) rfl (nI_1 (i)) (by decide) rfl (fun ls hl => ?_)
          refine lv_goto (tgt := 6) hx hb dX8_dueBetween_75 (by decide) ?_
          have hds : dsC κ w p1 p2 (i + 1) = ((dsC κ w p1 p2 i) + (κ 8 w i * κ 2 (2 * rk) q + κ 9 w i * κ 2 (2 * rk + 1) q)) := by show dsC κ w p1 p2 i + (if ¬ κ 7 w i = -1 ∧ ¬ κ 7 w i < p1 ∧ ¬ p2 < κ 7 w i then pyC κ w i else 0) = _; rw [if_pos ⟨hs, c_5, c_6⟩]; unfold pyC; rw [hq, nI_clamp (n := q) (by omega), hrkq, nI_clamp (n := rk) (by omega)]
          exact IH (i + 1) _ _ _ (by omega) (by omega) hw (by rw [hds]; exact lv_sub hl [0, 1, 3, 4, 5, 6] rfl)

theorem iX8_claimOf_7 : ∀ w ∈ wsX70, w ∈ wsX8_claimOf := by decide +kernel
theorem iX8_claimOf_8 : ∀ w ∈ wsX80, w ∈ wsX8_claimOf := by decide +kernel
set_option maxHeartbeats 4000000 in
set_option maxRecDepth 100000 in
/-- claimOf -/
theorem c_X8_claimOf (l : Launch) (D : va_G) (A : Nat → Prop) (y : Nat → ClassId) (sa : Nat → Nat) (f : fw_F) (α : Nat → Nat → Nat → Nat) (κ : cS) (nw no nt wk : Nat) (w : Nat) (hwn : w < nw) (hI : Ic nw no nt wk κ) (hR : Rc y nw no nt wk κ α f) : Met l yX8_claimOf wsX8_claimOf ({ frames := 3, cells := 0, slots := 0, locals := 68 } : Room) (cPc D A y sa f [.ref (α 0 0 0), .ref (α 3 w 0)]) (cQi D A (fun r f1 => r = clC κ wk w ∧ f1 = f)) 0 0 A := by
  refine fw_met (by decide) rfl [.ref (α 0 0 0), .ref (α 3 w 0)] (Nat.le_of_ble_eq_true rfl) ?_
  intro p e s m args below meth c ls I hin hE hw hl
  obtain ⟨hx, hb, hr, hts, hown, hlocks, hml⟩ := I
  have hown : s.vm.findClass RX8 = some m.cls := hown
  have hl : lv_has ls 2 [(0, .ref (α 0 0 0)), (1, .ref (α 3 w 0))] := hl
  obtain ⟨hI1, hI2, hI3, hI4, hI5, hI6, hI7, hI8, hI9, hI10⟩ := id hI
  refine lv_aload_n hx hb dX8_claimOf_0 rfl (lv_at hl 0 rfl) ?_
  refine lv_aload_n hx hb dX8_claimOf_1 rfl (lv_at hl 1 rfl) ?_
  refine lv_iconst (v := 0) hx hb dX8_claimOf_2 (by decide) ?_
  refine lv_aload_n hx hb dX8_claimOf_3 rfl (lv_at hl 0 rfl) ?_
  refine fw_get hx hb hts hown hE.1.1 hw (ci := 8) (fs := [.ref (α 0 0 1), .ref (α 0 0 2), .ref (α 0 0 3), .ref (α 0 0 4), .ref (α 0 0 5), .int (nI nw), .int (nI no), .int (nI nt), .int (κ 0 0 0), .int (nI wk)]) (v := .int (nI wk)) hR.x iX8_claimOf_8 rfl 9 (by decide) rfl (by decide +kernel) dX8_claimOf_4 ?_
  refine fw_callVi hx hb hml hown hts hE hw [.ref (α 3 w 0), .int 0, .int (nI wk)] [] (c_X8_dueBetween l D A y sa f α κ nw no nt wk w 0 (nI wk) hwn hI hR) (cwV 3 hts gX8_claimOf_X8_dueBetween rfl rfl rfl (by decide +kernel) ⟨Nat.le_of_ble_eq_true rfl, Nat.le_of_ble_eq_true rfl⟩) (ci := 8) rfl rfl hR.x rfl hl.1 rfl (Nat.le_of_ble_eq_true rfl) dX8_claimOf_7 ⟨Nat.le_of_ble_eq_true rfl, Nat.le_of_ble_eq_true rfl⟩ (fun r1 f2 H locs hp3 hw => ?_)
  obtain ⟨hp3a, hp3b⟩ := hp3
  rw [hp3b] at hw
  rw [hp3a]
  refine lv_aload_n hx hb dX8_claimOf_10 rfl (lv_at hl 1 rfl) ?_
  refine fw_get hx hb hts hown hE.1.1 hw (ci := 7) (fs := [.ref (α 1 (κ 4 w 0).toNatClampNeg 0), .ref (α 3 w 1), .int (κ 4 w 1), .int (κ 4 w 2), .int (κ 4 w 3), .int (κ 4 w 4), .ref (α 3 w 4), .ref (α 3 w 5)]) (v := .int (κ 4 w 2)) (hR.w0 hwn) iX8_claimOf_7 rfl 3 (by decide) rfl (by decide +kernel) dX8_claimOf_11 ?_
  refine lv_isub hx hb dX8_claimOf_14 ?_
  exact fw_iret hx hb hr hlocks hw (Nat.le_of_ble_eq_true rfl) (Nat.le_of_ble_eq_true rfl) dX8_claimOf_15 (⟨rfl, rfl⟩)
