def upA (μ : mS) (k : Nat) (g : Nat → Int32) : mS := fun a => if a = k then g else μ a
theorem upA_id (μ : mS) (k : Nat) : upA μ k (μ k) = μ := by
  funext a
  unfold upA
  by_cases z : a = k
  · rw [if_pos z, z]
  · rw [if_neg z]
theorem upA_up2 (μ : mS) (k i : Nat) (g : Nat → Int32) (v : Int32) : up2 (upA μ k g) k i v = upA μ k (va_up g i v) := by
  funext a
  unfold upA up2
  by_cases z : a = k
  · simp [z]
  · simp [z]
/-- what step i of the garnishing takes -/
def itsM (μ : mS) (w no i : Nat) (g : Nat → Int32) (lf : Int32) : Int32 := if μ 14 (i % no) = nI w ∧ μ 15 (i % no) = nI (i / no) then lst (lst (g (i % no)) (μ 17 (i % no))) (if μ 18 0 < lf then lf - μ 18 0 else 0) else 0
/-- the orders' rests and what is left, behind i steps -/
def gnM (μ : mS) (w no : Nat) (gross : Int32) : Nat → (Nat → Int32) × Int32
  | 0 => (μ 16, gross)
  | i + 1 => (va_up (gnM μ w no gross i).1 (i % no) ((gnM μ w no gross i).1 (i % no) - itsM μ w no i (gnM μ w no gross i).1 (gnM μ w no gross i).2), (gnM μ w no gross i).2 - itsM μ w no i (gnM μ w no gross i).1 (gnM μ w no gross i).2)
def grM (μ : mS) (w no : Nat) (gross : Int32) : Int32 := gross - (gnM μ w no gross (3 * no)).2
/-- pays, up to the garnishing -/
def pyA (μ : mS) (w wk ev : Nat) (gross : Int32) : mS := up2 (up2 (up2 (up2 (up2 μ 10 w (μ 10 w + gross)) 11 w (μ 11 w - lst (μ 11 w) (gross / 10))) 19 ev (μ 19 ev + (lst (μ 11 w) (gross / 10) - gross))) 12 (4 * (31 * w + wk) + 0) gross) 12 (4 * (31 * w + wk) + 1) (lst (μ 11 w) (gross / 10))
def pyM (μ : mS) (w wk no ev : Nat) (gross : Int32) : mS :=
  up2 (up2 (upA (pyA μ w wk ev gross) 16 (gnM (pyA μ w wk ev gross) w no (gross - lst (μ 11 w) (gross / 10)) (3 * no)).1) 12 (4 * (31 * w + wk) + 2) (grM (pyA μ w wk ev gross) w no (gross - lst (μ 11 w) (gross / 10)))) 12 (4 * (31 * w + wk) + 3) (gross - lst (μ 11 w) (gross / 10) - grM (pyA μ w wk ev gross) w no (gross - lst (μ 11 w) (gross / 10)))
/-- one worker at the closing of a week -/
def stM (μ : mS) (wk no i : Nat) : mS := if clM μ i < 0 then up2 (up2 μ 11 i (μ 11 i - clM μ i)) 10 i (μ 10 i + clM μ i) else if 0 < clM μ i ∧ clM μ i ≤ μ 19 (μ 3 i).toNatClampNeg then pyM μ i wk no (μ 3 i).toNatClampNeg (clM μ i) else μ
def snM (μ : mS) (i : Nat) : Int32 := if clM μ i < 0 then 0 else if 0 < clM μ i ∧ clM μ i ≤ μ 19 (μ 3 i).toNatClampNeg then 1 else 0
def csA (μ : mS) (wk no : Nat) : Nat → mS × Int32
  | 0 => (μ, 0)
  | i + 1 => (stM (csA μ wk no i).1 wk no i, (csA μ wk no i).2 + snM (csA μ wk no i).1 i)
theorem Im_pyM {μ : mS} {nw wk no nt w ev : Nat} {gross : Int32} (hI : Im μ nw wk no nt) : Im (pyM μ w wk no ev gross) nw wk no nt := hI
theorem Im_stM {μ : mS} {nw wk no nt i : Nat} (hI : Im μ nw wk no nt) : Im (stM μ wk no i) nw wk no nt := by
  unfold stM
  split
  · exact hI
  · split
    · exact Im_pyM hI
    · exact hI
theorem Im_csA {μ : mS} {nw wk no nt : Nat} (hI : Im μ nw wk no nt) : ∀ i, Im (csA μ wk no i).1 nw wk no nt
  | 0 => hI
  | i + 1 => Im_stM (Im_csA hI i)
theorem iX9_garnishes_9 : ∀ w ∈ wsX90, w ∈ wsX9_garnishes := by decide +kernel
set_option maxHeartbeats 4000000 in
set_option maxRecDepth 100000 in
/-- the reference: garnishes -/
theorem c_X9_garnishes (l : Launch) (D : va_G) (A : Nat → Prop) (y : Nat → ClassId) (sa : Nat → Nat) (f : fw_F) (β : Nat → Nat) (μ : mS) (nw wk no nt : Nat) (hI : Im μ nw wk no nt) (w : Nat) (p1 : Int32) (hR : Rm y μ β f) : Met l yX9_garnishes wsX9_garnishes ({ frames := 1, cells := 0, slots := 0, locals := 21 } : Room) (cPc D A y sa f [.ref (β 0), .int (nI w), .int p1]) (cQi D A (fun r f1 => r = grM μ w no p1 ∧ Rm y (upA μ 16 (gnM μ w no p1 (3 * no)).1) β f1)) 0 0 A := by
  refine fw_met (by decide) rfl [.ref (β 0), .int (nI w), .int p1] (Nat.le_of_ble_eq_true rfl) ?_
  intro p e s m args below meth c ls I hin hE hw hl
  obtain ⟨hx, hb, hr, hts, hown, hlocks, hml⟩ := I
  have hown : s.vm.findClass RX9 = some m.cls := hown
  have hl : lv_has ls 9 [(0, .ref (β 0)), (1, .int (nI w)), (2, .int p1)] := hl
  obtain ⟨hI1, hI2, hI3, hI4, hI5, hI6, hI7, hI8, hI9, hI10, hI11, hI12, hI13⟩ := id hI
  refine lv_iload_n hx hb dX9_garnishes_0 rfl (lv_at hl 2 rfl) ?_
  refine lv_istore_n (lv' := [(3, .int p1), (0, .ref (β 0)), (1, .int (nI w)), (2, .int p1)]) hx hb dX9_garnishes_1 rfl hl (by decide) rfl (fun ls hl => ?_)
  refine lv_iconst (v := 0) hx hb dX9_garnishes_2 (by decide) ?_
  refine lv_istore (lv' := [(4, .int 0), (3, .int p1), (0, .ref (β 0)), (1, .int (nI w)), (2, .int p1)]) hx hb dX9_garnishes_3 hl (by decide) rfl (fun ls hl => ?_)
  refine fw_loop 5 9 (fun r : Nat × fw_F => 3 * no - r.1) (fun r => r.1 ≤ 3 * no ∧ Rm y (upA μ 16 (gnM μ w no p1 r.1).1) β r.2) (fun r => r.2) (fun r => [(4, .int (nI r.1)), (3, .int (gnM μ w no p1 r.1).2), (0, .ref (β 0)), (1, .int (nI w)), (2, .int p1)]) (fun r => []) (fun r => 0) (fun r => 0) (fun r H locs ls hP hw hl IH => ?_) (0, f) s.heap [] ls ⟨by omega, by show Rm y (upA μ 16 (μ 16)) β f; rw [upA_id]; exact hR⟩ hw (lv_sub hl [0, 1, 2, 3, 4] rfl)
  obtain ⟨i, fa⟩ := r
  obtain ⟨hP1, hR⟩ := hP
  skip
  try dsimp only at hw
  try dsimp only at hl
  try dsimp only at IH
  try dsimp only at ⊢
  dsimp only at hP1 hR
  refine lv_iload hx hb dX9_garnishes_5 (lv_at hl 0 rfl) ?_
  refine lv_iconst (v := 3) hx hb dX9_garnishes_7 (by decide) ?_
  refine lv_aload_n hx hb dX9_garnishes_8 rfl (lv_at hl 2 rfl) ?_
  refine fw_get hx hb hts hown hE.1.1 hw (ci := 9) (fs := [.int (μ 0 0), .int (μ 1 0), .int (μ 2 0), .ref (β 3), .ref (β 4), .ref (β 5), .ref (β 6), .ref (β 7), .ref (β 8), .ref (β 9), .ref (β 10), .ref (β 11), .ref (β 12), .int (μ 13 0), .ref (β 14), .ref (β 15), .ref (β 16), .ref (β 17), .int (μ 18 0), .ref (β 19), .ref (β 20), .int (μ 21 0), .ref (β 22), .ref (β 23), .ref (β 24)]) (v := .int (μ 13 0)) hR.o iX9_garnishes_9 rfl 13 (by decide) rfl (by decide +kernel) dX9_garnishes_9 ?_
  rw [hI5]
  refine lv_imul hx hb dX9_garnishes_12 ?_
  rw [show ((3 * (nI no)) : Int32) = (nI (3 * no)) from nI_mul (3) (no)]
  refine lv_icmp_ge (tgt := 136) hx hb dX9_garnishes_13 (by decide) (fun c_1 => ?_) (fun c_1 => ?_)
  · have hi3 : i = 3 * no := nI_eqn c_1 hP1 (by omega)
    refine lv_iload_n hx hb dX9_garnishes_136 rfl (lv_at hl 4 rfl) ?_
    refine lv_iload_n hx hb dX9_garnishes_137 rfl (lv_at hl 1 rfl) ?_
    refine lv_isub hx hb dX9_garnishes_138 ?_
    exact fw_iret hx hb hr hlocks hw (Nat.le_of_ble_eq_true rfl) (Nat.le_of_ble_eq_true rfl) dX9_garnishes_139 (⟨by unfold grM; rw [← hi3], by rw [← hi3]; exact hR⟩)
  · have hi3 : i < 3 * no := nI_hi c_1 (by omega)
    have hno0 : 0 < no := by omega
    have hmod : i % no < no := Nat.mod_lt _ hno0
    refine lv_iload hx hb dX9_garnishes_16 (lv_at hl 0 rfl) ?_
    refine lv_aload_n hx hb dX9_garnishes_18 rfl (lv_at hl 2 rfl) ?_
    refine fw_get hx hb hts hown hE.1.1 hw (ci := 9) (fs := [.int (μ 0 0), .int (μ 1 0), .int (μ 2 0), .ref (β 3), .ref (β 4), .ref (β 5), .ref (β 6), .ref (β 7), .ref (β 8), .ref (β 9), .ref (β 10), .ref (β 11), .ref (β 12), .int (μ 13 0), .ref (β 14), .ref (β 15), .ref (β 16), .ref (β 17), .int (μ 18 0), .ref (β 19), .ref (β 20), .int (μ 21 0), .ref (β 22), .ref (β 23), .ref (β 24)]) (v := .int (μ 13 0)) hR.o iX9_garnishes_9 rfl 13 (by decide) rfl (by decide +kernel) dX9_garnishes_19 ?_
    rw [hI5]
    refine lv_irem hx hb dX9_garnishes_22 (nI_ne0 hno0 (by omega)) ?_
    rw [show (((nI i) - (nI i) / (nI no) * (nI no)) : Int32) = (nI (i % no)) from pk_rem (by omega) hno0 (by omega)]
    refine lv_istore (lv' := [(5, .int (nI (i % no))), (4, .int (nI i)), (3, .int ((gnM μ w no p1 i).2)), (0, .ref (β 0)), (1, .int (nI w)), (2, .int p1)]) hx hb dX9_garnishes_23 hl (by decide) rfl (fun ls hl => ?_)
    refine lv_aload_n hx hb dX9_garnishes_25 rfl (lv_at hl 3 rfl) ?_
    refine fw_get hx hb hts hown hE.1.1 hw (ci := 9) (fs := [.int (μ 0 0), .int (μ 1 0), .int (μ 2 0), .ref (β 3), .ref (β 4), .ref (β 5), .ref (β 6), .ref (β 7), .ref (β 8), .ref (β 9), .ref (β 10), .ref (β 11), .ref (β 12), .int (μ 13 0), .ref (β 14), .ref (β 15), .ref (β 16), .ref (β 17), .int (μ 18 0), .ref (β 19), .ref (β 20), .int (μ 21 0), .ref (β 22), .ref (β 23), .ref (β 24)]) (v := .ref (β 14)) hR.o iX9_garnishes_9 rfl 14 (by decide) rfl (by decide +kernel) dX9_garnishes_26 ?_
    refine lv_iload hx hb dX9_garnishes_29 (lv_at hl 0 rfl) ?_
    refine fw_iald hx hb hE.1.1 hw (g := (μ 14)) hR.a14 0 rfl (vp_in_nI (by omega) (by decide)) dX9_garnishes_31 ?_
    rw [nI_clamp (n := (i % no)) (by omega)]
    refine lv_iload_n hx hb dX9_garnishes_32 rfl (lv_at hl 4 rfl) ?_
    refine lv_icmp_ne (tgt := 57) hx hb dX9_garnishes_33 (by decide) (fun c_2 => ?_) (fun c_2 => ?_)
    · refine lv_iconst (v := 0) hx hb dX9_garnishes_57 (by decide) ?_
      refine lv_istore (lv' := [(6, .int 0), (5, .int (nI (i % no))), (4, .int (nI i)), (3, .int ((gnM μ w no p1 i).2)), (0, .ref (β 0)), (1, .int (nI w)), (2, .int p1)]) hx hb dX9_garnishes_58 hl (by decide) rfl (fun ls hl => ?_)
      refine lv_iload_n hx hb dX9_garnishes_60 rfl (lv_at hl 3 rfl) ?_
      refine lv_aload_n hx hb dX9_garnishes_61 rfl (lv_at hl 4 rfl) ?_
      refine fw_get hx hb hts hown hE.1.1 hw (ci := 9) (fs := [.int (μ 0 0), .int (μ 1 0), .int (μ 2 0), .ref (β 3), .ref (β 4), .ref (β 5), .ref (β 6), .ref (β 7), .ref (β 8), .ref (β 9), .ref (β 10), .ref (β 11), .ref (β 12), .int (μ 13 0), .ref (β 14), .ref (β 15), .ref (β 16), .ref (β 17), .int (μ 18 0), .ref (β 19), .ref (β 20), .int (μ 21 0), .ref (β 22), .ref (β 23), .ref (β 24)]) (v := .int (μ 18 0)) hR.o iX9_garnishes_9 rfl 18 (by decide) rfl (by decide +kernel) dX9_garnishes_62 ?_
      refine lv_icmp_le (tgt := 77) hx hb dX9_garnishes_65 (by decide) (fun c_3 => ?_) (fun c_3 => ?_)
      · refine lv_iconst (v := 0) hx hb dX9_garnishes_77 (by decide) ?_
        refine lv_istore (lv' := [(7, .int 0), (6, .int 0), (5, .int (nI (i % no))), (4, .int (nI i)), (3, .int ((gnM μ w no p1 i).2)), (0, .ref (β 0)), (1, .int (nI w)), (2, .int p1)]) hx hb dX9_garnishes_78 hl (by decide) rfl (fun ls hl => ?_)
        refine lv_iload hx hb dX9_garnishes_80 (lv_at hl 1 rfl) ?_
        refine lv_if_eq (tgt := 110) hx hb dX9_garnishes_82 (by decide) (fun _ => ?_) (fun c_4 => absurd c_4 (by decide))
        refine lv_iconst (v := 0) hx hb dX9_garnishes_110 (by decide) ?_
        refine lv_istore (lv' := [(8, .int 0), (7, .int 0), (6, .int 0), (5, .int (nI (i % no))), (4, .int (nI i)), (3, .int ((gnM μ w no p1 i).2)), (0, .ref (β 0)), (1, .int (nI w)), (2, .int p1)]) hx hb dX9_garnishes_111 hl (by decide) rfl (fun ls hl => ?_)
        refine lv_aload_n hx hb dX9_garnishes_113 rfl (lv_at hl 6 rfl) ?_
        refine fw_get hx hb hts hown hE.1.1 hw (ci := 9) (fs := [.int (μ 0 0), .int (μ 1 0), .int (μ 2 0), .ref (β 3), .ref (β 4), .ref (β 5), .ref (β 6), .ref (β 7), .ref (β 8), .ref (β 9), .ref (β 10), .ref (β 11), .ref (β 12), .int (μ 13 0), .ref (β 14), .ref (β 15), .ref (β 16), .ref (β 17), .int (μ 18 0), .ref (β 19), .ref (β 20), .int (μ 21 0), .ref (β 22), .ref (β 23), .ref (β 24)]) (v := .ref (β 16)) hR.o iX9_garnishes_9 rfl 16 (by decide) rfl (by decide +kernel) dX9_garnishes_114 ?_
        refine lv_iload hx hb dX9_garnishes_117 (lv_at hl 3 rfl) ?_
        refine lv_dup2_11 hx hb dX9_garnishes_119 rfl rfl ?_
        refine fw_iald hx hb hE.1.1 hw (g := ((gnM μ w no p1 i).1)) hR.a16 0 rfl (vp_in_nI (by omega) (by decide)) dX9_garnishes_120 ?_
        rw [nI_clamp (n := (i % no)) (by omega)]
        refine lv_iload hx hb dX9_garnishes_121 (lv_at hl 0 rfl) ?_
        refine lv_isub hx hb dX9_garnishes_123 ?_
        refine fw_iast hx hb hE.1.1 hw (g := ((gnM μ w no p1 i).1)) hR.a16 0 rfl (vp_in_nI (by omega) (by decide)) dX9_garnishes_124 (fun H locs hw => ?_)
        rw [nI_clamp (n := (i % no)) (by omega)] at hw
        obtain ⟨f5, ef5⟩ : ∃ z, z = fw_up fa (β 16) (.inl (y 0, 20, .inl (va_up ((gnM μ w no p1 i).1) (i % no) ((((gnM μ w no p1 i).1) (i % no)) - 0)))) := ⟨_, rfl⟩
        have hw : fw_S D A s.heap f5 H locs := by rw [ef5]; exact hw
        have hR : Rm y (up2 (upA μ 16 (gnM μ w no p1 i).1) 16 (i % no) ((((gnM μ w no p1 i).1) (i % no)) - 0)) β f5 := by rw [ef5]; exact hR.s16 (i % no) ((((gnM μ w no p1 i).1) (i % no)) - 0)
        refine lv_iload_n hx hb dX9_garnishes_125 rfl (lv_at hl 5 rfl) ?_
        refine lv_iload hx hb dX9_garnishes_126 (lv_at hl 0 rfl) ?_
        refine lv_isub hx hb dX9_garnishes_128 ?_
        refine lv_istore_n (lv' := [(3, .int (((gnM μ w no p1 i).2) - 0)), (8, .int 0), (7, .int 0), (6, .int 0), (5, .int (nI (i % no))), (4, .int (nI i)), (0, .ref (β 0)), (1, .int (nI w)), (2, .int p1)]) hx hb dX9_garnishes_129 rfl hl (by decide) rfl (fun ls hl => ?_)
        refine lv_iinc (v := (nI (i + 1))) (lv' := [(4, .int (nI (i + 1))), (3, .int (((gnM μ w no p1 i).2) - 0)), (8, .int 0), (7, .int 0), (6, .int 0), (5, .int (nI (i % no))), (0, .ref (β 0)), (1, .int (nI w)), (2, .int p1)]) hx hb dX9_garnishes_130 hl (k := 5) rfl (nI_1 (i)) (by decide) rfl (fun ls hl => ?_)
        refine lv_goto (tgt := 5) hx hb dX9_garnishes_133 (by decide) ?_
        have hits : itsM μ w no i (gnM μ w no p1 i).1 (gnM μ w no p1 i).2 = 0 := by unfold itsM; rw [if_neg (fun z => c_2 z.1)]
        exact IH (i + 1, f5) _ _ _ (by dsimp only; omega) ⟨by dsimp only; omega, by show Rm y (upA μ 16 (va_up (gnM μ w no p1 i).1 (i % no) ((gnM μ w no p1 i).1 (i % no) - itsM μ w no i (gnM μ w no p1 i).1 (gnM μ w no p1 i).2))) β _; rw [hits, ← upA_up2]; exact hR⟩ hw (by rw [show (gnM μ w no p1 (i + 1, f5).1).2 = (gnM μ w no p1 i).2 - itsM μ w no i (gnM μ w no p1 i).1 (gnM μ w no p1 i).2 from rfl, hits]; exact lv_sub hl [0, 1, 6, 7, 8] rfl)
      · refine lv_iload_n hx hb dX9_garnishes_68 rfl (lv_at hl 3 rfl) ?_
        refine lv_aload_n hx hb dX9_garnishes_69 rfl (lv_at hl 4 rfl) ?_
        refine fw_get hx hb hts hown hE.1.1 hw (ci := 9) (fs := [.int (μ 0 0), .int (μ 1 0), .int (μ 2 0), .ref (β 3), .ref (β 4), .ref (β 5), .ref (β 6), .ref (β 7), .ref (β 8), .ref (β 9), .ref (β 10), .ref (β 11), .ref (β 12), .int (μ 13 0), .ref (β 14), .ref (β 15), .ref (β 16), .ref (β 17), .int (μ 18 0), .ref (β 19), .ref (β 20), .int (μ 21 0), .ref (β 22), .ref (β 23), .ref (β 24)]) (v := .int (μ 18 0)) hR.o iX9_garnishes_9 rfl 18 (by decide) rfl (by decide +kernel) dX9_garnishes_70 ?_
        refine lv_isub hx hb dX9_garnishes_73 ?_
        refine lv_goto (tgt := 78) hx hb dX9_garnishes_74 (by decide) ?_
        refine lv_istore (lv' := [(7, .int (((gnM μ w no p1 i).2) - (μ 18 0))), (6, .int 0), (5, .int (nI (i % no))), (4, .int (nI i)), (3, .int ((gnM μ w no p1 i).2)), (0, .ref (β 0)), (1, .int (nI w)), (2, .int p1)]) hx hb dX9_garnishes_78 hl (by decide) rfl (fun ls hl => ?_)
        refine lv_iload hx hb dX9_garnishes_80 (lv_at hl 1 rfl) ?_
        refine lv_if_eq (tgt := 110) hx hb dX9_garnishes_82 (by decide) (fun _ => ?_) (fun c_6 => absurd c_6 (by decide))
        refine lv_iconst (v := 0) hx hb dX9_garnishes_110 (by decide) ?_
        refine lv_istore (lv' := [(8, .int 0), (7, .int (((gnM μ w no p1 i).2) - (μ 18 0))), (6, .int 0), (5, .int (nI (i % no))), (4, .int (nI i)), (3, .int ((gnM μ w no p1 i).2)), (0, .ref (β 0)), (1, .int (nI w)), (2, .int p1)]) hx hb dX9_garnishes_111 hl (by decide) rfl (fun ls hl => ?_)
        refine lv_aload_n hx hb dX9_garnishes_113 rfl (lv_at hl 6 rfl) ?_
        refine fw_get hx hb hts hown hE.1.1 hw (ci := 9) (fs := [.int (μ 0 0), .int (μ 1 0), .int (μ 2 0), .ref (β 3), .ref (β 4), .ref (β 5), .ref (β 6), .ref (β 7), .ref (β 8), .ref (β 9), .ref (β 10), .ref (β 11), .ref (β 12), .int (μ 13 0), .ref (β 14), .ref (β 15), .ref (β 16), .ref (β 17), .int (μ 18 0), .ref (β 19), .ref (β 20), .int (μ 21 0), .ref (β 22), .ref (β 23), .ref (β 24)]) (v := .ref (β 16)) hR.o iX9_garnishes_9 rfl 16 (by decide) rfl (by decide +kernel) dX9_garnishes_114 ?_
        refine lv_iload hx hb dX9_garnishes_117 (lv_at hl 3 rfl) ?_
        refine lv_dup2_11 hx hb dX9_garnishes_119 rfl rfl ?_
        refine fw_iald hx hb hE.1.1 hw (g := ((gnM μ w no p1 i).1)) hR.a16 0 rfl (vp_in_nI (by omega) (by decide)) dX9_garnishes_120 ?_
        rw [nI_clamp (n := (i % no)) (by omega)]
        refine lv_iload hx hb dX9_garnishes_121 (lv_at hl 0 rfl) ?_
        refine lv_isub hx hb dX9_garnishes_123 ?_
        refine fw_iast hx hb hE.1.1 hw (g := ((gnM μ w no p1 i).1)) hR.a16 0 rfl (vp_in_nI (by omega) (by decide)) dX9_garnishes_124 (fun H locs hw => ?_)
        rw [nI_clamp (n := (i % no)) (by omega)] at hw
        obtain ⟨f7, ef7⟩ : ∃ z, z = fw_up fa (β 16) (.inl (y 0, 20, .inl (va_up ((gnM μ w no p1 i).1) (i % no) ((((gnM μ w no p1 i).1) (i % no)) - 0)))) := ⟨_, rfl⟩
        have hw : fw_S D A s.heap f7 H locs := by rw [ef7]; exact hw
        have hR : Rm y (up2 (upA μ 16 (gnM μ w no p1 i).1) 16 (i % no) ((((gnM μ w no p1 i).1) (i % no)) - 0)) β f7 := by rw [ef7]; exact hR.s16 (i % no) ((((gnM μ w no p1 i).1) (i % no)) - 0)
        refine lv_iload_n hx hb dX9_garnishes_125 rfl (lv_at hl 5 rfl) ?_
        refine lv_iload hx hb dX9_garnishes_126 (lv_at hl 0 rfl) ?_
        refine lv_isub hx hb dX9_garnishes_128 ?_
        refine lv_istore_n (lv' := [(3, .int (((gnM μ w no p1 i).2) - 0)), (8, .int 0), (7, .int (((gnM μ w no p1 i).2) - (μ 18 0))), (6, .int 0), (5, .int (nI (i % no))), (4, .int (nI i)), (0, .ref (β 0)), (1, .int (nI w)), (2, .int p1)]) hx hb dX9_garnishes_129 rfl hl (by decide) rfl (fun ls hl => ?_)
        refine lv_iinc (v := (nI (i + 1))) (lv' := [(4, .int (nI (i + 1))), (3, .int (((gnM μ w no p1 i).2) - 0)), (8, .int 0), (7, .int (((gnM μ w no p1 i).2) - (μ 18 0))), (6, .int 0), (5, .int (nI (i % no))), (0, .ref (β 0)), (1, .int (nI w)), (2, .int p1)]) hx hb dX9_garnishes_130 hl (k := 5) rfl (nI_1 (i)) (by decide) rfl (fun ls hl => ?_)
        refine lv_goto (tgt := 5) hx hb dX9_garnishes_133 (by decide) ?_
        have hits : itsM μ w no i (gnM μ w no p1 i).1 (gnM μ w no p1 i).2 = 0 := by unfold itsM; rw [if_neg (fun z => c_2 z.1)]
        exact IH (i + 1, f7) _ _ _ (by dsimp only; omega) ⟨by dsimp only; omega, by show Rm y (upA μ 16 (va_up (gnM μ w no p1 i).1 (i % no) ((gnM μ w no p1 i).1 (i % no) - itsM μ w no i (gnM μ w no p1 i).1 (gnM μ w no p1 i).2))) β _; rw [hits, ← upA_up2]; exact hR⟩ hw (by rw [show (gnM μ w no p1 (i + 1, f7).1).2 = (gnM μ w no p1 i).2 - itsM μ w no i (gnM μ w no p1 i).1 (gnM μ w no p1 i).2 from rfl, hits]; exact lv_sub hl [0, 1, 6, 7, 8] rfl)
    · refine lv_aload_n hx hb dX9_garnishes_36 rfl (lv_at hl 3 rfl) ?_
      refine fw_get hx hb hts hown hE.1.1 hw (ci := 9) (fs := [.int (μ 0 0), .int (μ 1 0), .int (μ 2 0), .ref (β 3), .ref (β 4), .ref (β 5), .ref (β 6), .ref (β 7), .ref (β 8), .ref (β 9), .ref (β 10), .ref (β 11), .ref (β 12), .int (μ 13 0), .ref (β 14), .ref (β 15), .ref (β 16), .ref (β 17), .int (μ 18 0), .ref (β 19), .ref (β 20), .int (μ 21 0), .ref (β 22), .ref (β 23), .ref (β 24)]) (v := .ref (β 15)) hR.o iX9_garnishes_9 rfl 15 (by decide) rfl (by decide +kernel) dX9_garnishes_37 ?_
      refine lv_iload hx hb dX9_garnishes_40 (lv_at hl 0 rfl) ?_
      refine fw_iald hx hb hE.1.1 hw (g := (μ 15)) hR.a15 0 rfl (vp_in_nI (by omega) (by decide)) dX9_garnishes_42 ?_
      rw [nI_clamp (n := (i % no)) (by omega)]
      refine lv_iload hx hb dX9_garnishes_43 (lv_at hl 1 rfl) ?_
      refine lv_aload_n hx hb dX9_garnishes_45 rfl (lv_at hl 3 rfl) ?_
      refine fw_get hx hb hts hown hE.1.1 hw (ci := 9) (fs := [.int (μ 0 0), .int (μ 1 0), .int (μ 2 0), .ref (β 3), .ref (β 4), .ref (β 5), .ref (β 6), .ref (β 7), .ref (β 8), .ref (β 9), .ref (β 10), .ref (β 11), .ref (β 12), .int (μ 13 0), .ref (β 14), .ref (β 15), .ref (β 16), .ref (β 17), .int (μ 18 0), .ref (β 19), .ref (β 20), .int (μ 21 0), .ref (β 22), .ref (β 23), .ref (β 24)]) (v := .int (μ 13 0)) hR.o iX9_garnishes_9 rfl 13 (by decide) rfl (by decide +kernel) dX9_garnishes_46 ?_
      rw [hI5]
      refine lv_idiv hx hb dX9_garnishes_49 (nI_ne0 hno0 (by omega)) ?_
      rw [show (((nI i) / (nI no)) : Int32) = (nI (i / no)) from pk_div (by omega) hno0 (by omega)]
      refine lv_icmp_ne (tgt := 57) hx hb dX9_garnishes_50 (by decide) (fun c_8 => ?_) (fun c_8 => ?_)
      · refine lv_iconst (v := 0) hx hb dX9_garnishes_57 (by decide) ?_
        refine lv_istore (lv' := [(6, .int 0), (5, .int (nI (i % no))), (4, .int (nI i)), (3, .int ((gnM μ w no p1 i).2)), (0, .ref (β 0)), (1, .int (nI w)), (2, .int p1)]) hx hb dX9_garnishes_58 hl (by decide) rfl (fun ls hl => ?_)
        refine lv_iload_n hx hb dX9_garnishes_60 rfl (lv_at hl 3 rfl) ?_
        refine lv_aload_n hx hb dX9_garnishes_61 rfl (lv_at hl 4 rfl) ?_
        refine fw_get hx hb hts hown hE.1.1 hw (ci := 9) (fs := [.int (μ 0 0), .int (μ 1 0), .int (μ 2 0), .ref (β 3), .ref (β 4), .ref (β 5), .ref (β 6), .ref (β 7), .ref (β 8), .ref (β 9), .ref (β 10), .ref (β 11), .ref (β 12), .int (μ 13 0), .ref (β 14), .ref (β 15), .ref (β 16), .ref (β 17), .int (μ 18 0), .ref (β 19), .ref (β 20), .int (μ 21 0), .ref (β 22), .ref (β 23), .ref (β 24)]) (v := .int (μ 18 0)) hR.o iX9_garnishes_9 rfl 18 (by decide) rfl (by decide +kernel) dX9_garnishes_62 ?_
        refine lv_icmp_le (tgt := 77) hx hb dX9_garnishes_65 (by decide) (fun c_9 => ?_) (fun c_9 => ?_)
        · refine lv_iconst (v := 0) hx hb dX9_garnishes_77 (by decide) ?_
          refine lv_istore (lv' := [(7, .int 0), (6, .int 0), (5, .int (nI (i % no))), (4, .int (nI i)), (3, .int ((gnM μ w no p1 i).2)), (0, .ref (β 0)), (1, .int (nI w)), (2, .int p1)]) hx hb dX9_garnishes_78 hl (by decide) rfl (fun ls hl => ?_)
          refine lv_iload hx hb dX9_garnishes_80 (lv_at hl 1 rfl) ?_
          refine lv_if_eq (tgt := 110) hx hb dX9_garnishes_82 (by decide) (fun _ => ?_) (fun c_10 => absurd c_10 (by decide))
          refine lv_iconst (v := 0) hx hb dX9_garnishes_110 (by decide) ?_
          refine lv_istore (lv' := [(8, .int 0), (7, .int 0), (6, .int 0), (5, .int (nI (i % no))), (4, .int (nI i)), (3, .int ((gnM μ w no p1 i).2)), (0, .ref (β 0)), (1, .int (nI w)), (2, .int p1)]) hx hb dX9_garnishes_111 hl (by decide) rfl (fun ls hl => ?_)
          refine lv_aload_n hx hb dX9_garnishes_113 rfl (lv_at hl 6 rfl) ?_
          refine fw_get hx hb hts hown hE.1.1 hw (ci := 9) (fs := [.int (μ 0 0), .int (μ 1 0), .int (μ 2 0), .ref (β 3), .ref (β 4), .ref (β 5), .ref (β 6), .ref (β 7), .ref (β 8), .ref (β 9), .ref (β 10), .ref (β 11), .ref (β 12), .int (μ 13 0), .ref (β 14), .ref (β 15), .ref (β 16), .ref (β 17), .int (μ 18 0), .ref (β 19), .ref (β 20), .int (μ 21 0), .ref (β 22), .ref (β 23), .ref (β 24)]) (v := .ref (β 16)) hR.o iX9_garnishes_9 rfl 16 (by decide) rfl (by decide +kernel) dX9_garnishes_114 ?_
          refine lv_iload hx hb dX9_garnishes_117 (lv_at hl 3 rfl) ?_
          refine lv_dup2_11 hx hb dX9_garnishes_119 rfl rfl ?_
          refine fw_iald hx hb hE.1.1 hw (g := ((gnM μ w no p1 i).1)) hR.a16 0 rfl (vp_in_nI (by omega) (by decide)) dX9_garnishes_120 ?_
          rw [nI_clamp (n := (i % no)) (by omega)]
          refine lv_iload hx hb dX9_garnishes_121 (lv_at hl 0 rfl) ?_
          refine lv_isub hx hb dX9_garnishes_123 ?_
          refine fw_iast hx hb hE.1.1 hw (g := ((gnM μ w no p1 i).1)) hR.a16 0 rfl (vp_in_nI (by omega) (by decide)) dX9_garnishes_124 (fun H locs hw => ?_)
          rw [nI_clamp (n := (i % no)) (by omega)] at hw
          obtain ⟨f11, ef11⟩ : ∃ z, z = fw_up fa (β 16) (.inl (y 0, 20, .inl (va_up ((gnM μ w no p1 i).1) (i % no) ((((gnM μ w no p1 i).1) (i % no)) - 0)))) := ⟨_, rfl⟩
          have hw : fw_S D A s.heap f11 H locs := by rw [ef11]; exact hw
          have hR : Rm y (up2 (upA μ 16 (gnM μ w no p1 i).1) 16 (i % no) ((((gnM μ w no p1 i).1) (i % no)) - 0)) β f11 := by rw [ef11]; exact hR.s16 (i % no) ((((gnM μ w no p1 i).1) (i % no)) - 0)
          refine lv_iload_n hx hb dX9_garnishes_125 rfl (lv_at hl 5 rfl) ?_
          refine lv_iload hx hb dX9_garnishes_126 (lv_at hl 0 rfl) ?_
          refine lv_isub hx hb dX9_garnishes_128 ?_
          refine lv_istore_n (lv' := [(3, .int (((gnM μ w no p1 i).2) - 0)), (8, .int 0), (7, .int 0), (6, .int 0), (5, .int (nI (i % no))), (4, .int (nI i)), (0, .ref (β 0)), (1, .int (nI w)), (2, .int p1)]) hx hb dX9_garnishes_129 rfl hl (by decide) rfl (fun ls hl => ?_)
          refine lv_iinc (v := (nI (i + 1))) (lv' := [(4, .int (nI (i + 1))), (3, .int (((gnM μ w no p1 i).2) - 0)), (8, .int 0), (7, .int 0), (6, .int 0), (5, .int (nI (i % no))), (0, .ref (β 0)), (1, .int (nI w)), (2, .int p1)]) hx hb dX9_garnishes_130 hl (k := 5) rfl (nI_1 (i)) (by decide) rfl (fun ls hl => ?_)
          refine lv_goto (tgt := 5) hx hb dX9_garnishes_133 (by decide) ?_
          have hits : itsM μ w no i (gnM μ w no p1 i).1 (gnM μ w no p1 i).2 = 0 := by unfold itsM; rw [if_neg (fun z => c_8 z.2)]
          exact IH (i + 1, f11) _ _ _ (by dsimp only; omega) ⟨by dsimp only; omega, by show Rm y (upA μ 16 (va_up (gnM μ w no p1 i).1 (i % no) ((gnM μ w no p1 i).1 (i % no) - itsM μ w no i (gnM μ w no p1 i).1 (gnM μ w no p1 i).2))) β _; rw [hits, ← upA_up2]; exact hR⟩ hw (by rw [show (gnM μ w no p1 (i + 1, f11).1).2 = (gnM μ w no p1 i).2 - itsM μ w no i (gnM μ w no p1 i).1 (gnM μ w no p1 i).2 from rfl, hits]; exact lv_sub hl [0, 1, 6, 7, 8] rfl)
        · refine lv_iload_n hx hb dX9_garnishes_68 rfl (lv_at hl 3 rfl) ?_
          refine lv_aload_n hx hb dX9_garnishes_69 rfl (lv_at hl 4 rfl) ?_
          refine fw_get hx hb hts hown hE.1.1 hw (ci := 9) (fs := [.int (μ 0 0), .int (μ 1 0), .int (μ 2 0), .ref (β 3), .ref (β 4), .ref (β 5), .ref (β 6), .ref (β 7), .ref (β 8), .ref (β 9), .ref (β 10), .ref (β 11), .ref (β 12), .int (μ 13 0), .ref (β 14), .ref (β 15), .ref (β 16), .ref (β 17), .int (μ 18 0), .ref (β 19), .ref (β 20), .int (μ 21 0), .ref (β 22), .ref (β 23), .ref (β 24)]) (v := .int (μ 18 0)) hR.o iX9_garnishes_9 rfl 18 (by decide) rfl (by decide +kernel) dX9_garnishes_70 ?_
          refine lv_isub hx hb dX9_garnishes_73 ?_
          refine lv_goto (tgt := 78) hx hb dX9_garnishes_74 (by decide) ?_
          refine lv_istore (lv' := [(7, .int (((gnM μ w no p1 i).2) - (μ 18 0))), (6, .int 0), (5, .int (nI (i % no))), (4, .int (nI i)), (3, .int ((gnM μ w no p1 i).2)), (0, .ref (β 0)), (1, .int (nI w)), (2, .int p1)]) hx hb dX9_garnishes_78 hl (by decide) rfl (fun ls hl => ?_)
          refine lv_iload hx hb dX9_garnishes_80 (lv_at hl 1 rfl) ?_
          refine lv_if_eq (tgt := 110) hx hb dX9_garnishes_82 (by decide) (fun _ => ?_) (fun c_12 => absurd c_12 (by decide))
          refine lv_iconst (v := 0) hx hb dX9_garnishes_110 (by decide) ?_
          refine lv_istore (lv' := [(8, .int 0), (7, .int (((gnM μ w no p1 i).2) - (μ 18 0))), (6, .int 0), (5, .int (nI (i % no))), (4, .int (nI i)), (3, .int ((gnM μ w no p1 i).2)), (0, .ref (β 0)), (1, .int (nI w)), (2, .int p1)]) hx hb dX9_garnishes_111 hl (by decide) rfl (fun ls hl => ?_)
          refine lv_aload_n hx hb dX9_garnishes_113 rfl (lv_at hl 6 rfl) ?_
          refine fw_get hx hb hts hown hE.1.1 hw (ci := 9) (fs := [.int (μ 0 0), .int (μ 1 0), .int (μ 2 0), .ref (β 3), .ref (β 4), .ref (β 5), .ref (β 6), .ref (β 7), .ref (β 8), .ref (β 9), .ref (β 10), .ref (β 11), .ref (β 12), .int (μ 13 0), .ref (β 14), .ref (β 15), .ref (β 16), .ref (β 17), .int (μ 18 0), .ref (β 19), .ref (β 20), .int (μ 21 0), .ref (β 22), .ref (β 23), .ref (β 24)]) (v := .ref (β 16)) hR.o iX9_garnishes_9 rfl 16 (by decide) rfl (by decide +kernel) dX9_garnishes_114 ?_
          refine lv_iload hx hb dX9_garnishes_117 (lv_at hl 3 rfl) ?_
          refine lv_dup2_11 hx hb dX9_garnishes_119 rfl rfl ?_
          refine fw_iald hx hb hE.1.1 hw (g := ((gnM μ w no p1 i).1)) hR.a16 0 rfl (vp_in_nI (by omega) (by decide)) dX9_garnishes_120 ?_
          rw [nI_clamp (n := (i % no)) (by omega)]
          refine lv_iload hx hb dX9_garnishes_121 (lv_at hl 0 rfl) ?_
          refine lv_isub hx hb dX9_garnishes_123 ?_
          refine fw_iast hx hb hE.1.1 hw (g := ((gnM μ w no p1 i).1)) hR.a16 0 rfl (vp_in_nI (by omega) (by decide)) dX9_garnishes_124 (fun H locs hw => ?_)
          rw [nI_clamp (n := (i % no)) (by omega)] at hw
          obtain ⟨f13, ef13⟩ : ∃ z, z = fw_up fa (β 16) (.inl (y 0, 20, .inl (va_up ((gnM μ w no p1 i).1) (i % no) ((((gnM μ w no p1 i).1) (i % no)) - 0)))) := ⟨_, rfl⟩
          have hw : fw_S D A s.heap f13 H locs := by rw [ef13]; exact hw
          have hR : Rm y (up2 (upA μ 16 (gnM μ w no p1 i).1) 16 (i % no) ((((gnM μ w no p1 i).1) (i % no)) - 0)) β f13 := by rw [ef13]; exact hR.s16 (i % no) ((((gnM μ w no p1 i).1) (i % no)) - 0)
          refine lv_iload_n hx hb dX9_garnishes_125 rfl (lv_at hl 5 rfl) ?_
          refine lv_iload hx hb dX9_garnishes_126 (lv_at hl 0 rfl) ?_
          refine lv_isub hx hb dX9_garnishes_128 ?_
          refine lv_istore_n (lv' := [(3, .int (((gnM μ w no p1 i).2) - 0)), (8, .int 0), (7, .int (((gnM μ w no p1 i).2) - (μ 18 0))), (6, .int 0), (5, .int (nI (i % no))), (4, .int (nI i)), (0, .ref (β 0)), (1, .int (nI w)), (2, .int p1)]) hx hb dX9_garnishes_129 rfl hl (by decide) rfl (fun ls hl => ?_)
          refine lv_iinc (v := (nI (i + 1))) (lv' := [(4, .int (nI (i + 1))), (3, .int (((gnM μ w no p1 i).2) - 0)), (8, .int 0), (7, .int (((gnM μ w no p1 i).2) - (μ 18 0))), (6, .int 0), (5, .int (nI (i % no))), (0, .ref (β 0)), (1, .int (nI w)), (2, .int p1)]) hx hb dX9_garnishes_130 hl (k := 5) rfl (nI_1 (i)) (by decide) rfl (fun ls hl => ?_)
          refine lv_goto (tgt := 5) hx hb dX9_garnishes_133 (by decide) ?_
          have hits : itsM μ w no i (gnM μ w no p1 i).1 (gnM μ w no p1 i).2 = 0 := by unfold itsM; rw [if_neg (fun z => c_8 z.2)]
          exact IH (i + 1, f13) _ _ _ (by dsimp only; omega) ⟨by dsimp only; omega, by show Rm y (upA μ 16 (va_up (gnM μ w no p1 i).1 (i % no) ((gnM μ w no p1 i).1 (i % no) - itsM μ w no i (gnM μ w no p1 i).1 (gnM μ w no p1 i).2))) β _; rw [hits, ← upA_up2]; exact hR⟩ hw (by rw [show (gnM μ w no p1 (i + 1, f13).1).2 = (gnM μ w no p1 i).2 - itsM μ w no i (gnM μ w no p1 i).1 (gnM μ w no p1 i).2 from rfl, hits]; exact lv_sub hl [0, 1, 6, 7, 8] rfl)
      · refine lv_iconst (v := 1) hx hb dX9_garnishes_53 (by decide) ?_
        refine lv_goto (tgt := 58) hx hb dX9_garnishes_54 (by decide) ?_
        refine lv_istore (lv' := [(6, .int 1), (5, .int (nI (i % no))), (4, .int (nI i)), (3, .int ((gnM μ w no p1 i).2)), (0, .ref (β 0)), (1, .int (nI w)), (2, .int p1)]) hx hb dX9_garnishes_58 hl (by decide) rfl (fun ls hl => ?_)
        refine lv_iload_n hx hb dX9_garnishes_60 rfl (lv_at hl 3 rfl) ?_
        refine lv_aload_n hx hb dX9_garnishes_61 rfl (lv_at hl 4 rfl) ?_
        refine fw_get hx hb hts hown hE.1.1 hw (ci := 9) (fs := [.int (μ 0 0), .int (μ 1 0), .int (μ 2 0), .ref (β 3), .ref (β 4), .ref (β 5), .ref (β 6), .ref (β 7), .ref (β 8), .ref (β 9), .ref (β 10), .ref (β 11), .ref (β 12), .int (μ 13 0), .ref (β 14), .ref (β 15), .ref (β 16), .ref (β 17), .int (μ 18 0), .ref (β 19), .ref (β 20), .int (μ 21 0), .ref (β 22), .ref (β 23), .ref (β 24)]) (v := .int (μ 18 0)) hR.o iX9_garnishes_9 rfl 18 (by decide) rfl (by decide +kernel) dX9_garnishes_62 ?_
        refine lv_icmp_le (tgt := 77) hx hb dX9_garnishes_65 (by decide) (fun c_14 => ?_) (fun c_14 => ?_)
        · refine lv_iconst (v := 0) hx hb dX9_garnishes_77 (by decide) ?_
          refine lv_istore (lv' := [(7, .int 0), (6, .int 1), (5, .int (nI (i % no))), (4, .int (nI i)), (3, .int ((gnM μ w no p1 i).2)), (0, .ref (β 0)), (1, .int (nI w)), (2, .int p1)]) hx hb dX9_garnishes_78 hl (by decide) rfl (fun ls hl => ?_)
          refine lv_iload hx hb dX9_garnishes_80 (lv_at hl 1 rfl) ?_
          refine lv_if_eq (tgt := 110) hx hb dX9_garnishes_82 (by decide) (fun c_15 => absurd c_15 (by decide)) (fun _ => ?_)
          refine lv_aload_n hx hb dX9_garnishes_85 rfl (lv_at hl 5 rfl) ?_
          refine fw_get hx hb hts hown hE.1.1 hw (ci := 9) (fs := [.int (μ 0 0), .int (μ 1 0), .int (μ 2 0), .ref (β 3), .ref (β 4), .ref (β 5), .ref (β 6), .ref (β 7), .ref (β 8), .ref (β 9), .ref (β 10), .ref (β 11), .ref (β 12), .int (μ 13 0), .ref (β 14), .ref (β 15), .ref (β 16), .ref (β 17), .int (μ 18 0), .ref (β 19), .ref (β 20), .int (μ 21 0), .ref (β 22), .ref (β 23), .ref (β 24)]) (v := .ref (β 16)) hR.o iX9_garnishes_9 rfl 16 (by decide) rfl (by decide +kernel) dX9_garnishes_86 ?_
          refine lv_iload hx hb dX9_garnishes_89 (lv_at hl 2 rfl) ?_
          refine fw_iald hx hb hE.1.1 hw (g := ((gnM μ w no p1 i).1)) hR.a16 0 rfl (vp_in_nI (by omega) (by decide)) dX9_garnishes_91 ?_
          rw [nI_clamp (n := (i % no)) (by omega)]
          refine lv_aload_n hx hb dX9_garnishes_92 rfl (lv_at hl 5 rfl) ?_
          refine fw_get hx hb hts hown hE.1.1 hw (ci := 9) (fs := [.int (μ 0 0), .int (μ 1 0), .int (μ 2 0), .ref (β 3), .ref (β 4), .ref (β 5), .ref (β 6), .ref (β 7), .ref (β 8), .ref (β 9), .ref (β 10), .ref (β 11), .ref (β 12), .int (μ 13 0), .ref (β 14), .ref (β 15), .ref (β 16), .ref (β 17), .int (μ 18 0), .ref (β 19), .ref (β 20), .int (μ 21 0), .ref (β 22), .ref (β 23), .ref (β 24)]) (v := .ref (β 17)) hR.o iX9_garnishes_9 rfl 17 (by decide) rfl (by decide +kernel) dX9_garnishes_93 ?_
          refine lv_iload hx hb dX9_garnishes_96 (lv_at hl 2 rfl) ?_
          refine fw_iald hx hb hE.1.1 hw (g := (μ 17)) hR.a17 0 rfl (vp_in_nI (by omega) (by decide)) dX9_garnishes_98 ?_
          rw [nI_clamp (n := (i % no)) (by omega)]
          refine fw_callSi hx hb hml hown hts hE hw [.int (((gnM μ w no p1 i).1) (i % no)), .int ((μ 17) (i % no))] [] (c_X9_least l D A y sa fa (((gnM μ w no p1 i).1) (i % no)) ((μ 17) (i % no))) (va_cwS 2 hts gX9_garnishes_X9_least rfl rfl rfl (by decide +kernel) ⟨Nat.le_of_ble_eq_true rfl, Nat.le_of_ble_eq_true rfl⟩) rfl hl.1 rfl (Nat.le_of_ble_eq_true rfl) dX9_garnishes_99 ⟨Nat.le_of_ble_eq_true rfl, Nat.le_of_ble_eq_true rfl⟩ (fun r16 f17 H locs hp18 hw => ?_)
          obtain ⟨hp18a, hp18b⟩ := hp18
          rw [hp18b] at hw
          rw [hp18a]
          refine lv_iload hx hb dX9_garnishes_102 (lv_at hl 0 rfl) ?_
          refine fw_callSi hx hb hml hown hts hE hw [.int (lst (((gnM μ w no p1 i).1) (i % no)) ((μ 17) (i % no))), .int 0] [] (c_X9_least l D A y sa fa (lst (((gnM μ w no p1 i).1) (i % no)) ((μ 17) (i % no))) 0) (va_cwS 2 hts gX9_garnishes_X9_least rfl rfl rfl (by decide +kernel) ⟨Nat.le_of_ble_eq_true rfl, Nat.le_of_ble_eq_true rfl⟩) rfl hl.1 rfl (Nat.le_of_ble_eq_true rfl) dX9_garnishes_104 ⟨Nat.le_of_ble_eq_true rfl, Nat.le_of_ble_eq_true rfl⟩ (fun r19 f20 H locs hp21 hw => ?_)
          obtain ⟨hp21a, hp21b⟩ := hp21
          rw [hp21b] at hw
          rw [hp21a]
          refine lv_goto (tgt := 111) hx hb dX9_garnishes_107 (by decide) ?_
          refine lv_istore (lv' := [(8, .int (lst (lst (((gnM μ w no p1 i).1) (i % no)) ((μ 17) (i % no))) 0)), (7, .int 0), (6, .int 1), (5, .int (nI (i % no))), (4, .int (nI i)), (3, .int ((gnM μ w no p1 i).2)), (0, .ref (β 0)), (1, .int (nI w)), (2, .int p1)]) hx hb dX9_garnishes_111 hl (by decide) rfl (fun ls hl => ?_)
          refine lv_aload_n hx hb dX9_garnishes_113 rfl (lv_at hl 6 rfl) ?_
          refine fw_get hx hb hts hown hE.1.1 hw (ci := 9) (fs := [.int (μ 0 0), .int (μ 1 0), .int (μ 2 0), .ref (β 3), .ref (β 4), .ref (β 5), .ref (β 6), .ref (β 7), .ref (β 8), .ref (β 9), .ref (β 10), .ref (β 11), .ref (β 12), .int (μ 13 0), .ref (β 14), .ref (β 15), .ref (β 16), .ref (β 17), .int (μ 18 0), .ref (β 19), .ref (β 20), .int (μ 21 0), .ref (β 22), .ref (β 23), .ref (β 24)]) (v := .ref (β 16)) hR.o iX9_garnishes_9 rfl 16 (by decide) rfl (by decide +kernel) dX9_garnishes_114 ?_
          refine lv_iload hx hb dX9_garnishes_117 (lv_at hl 3 rfl) ?_
          refine lv_dup2_11 hx hb dX9_garnishes_119 rfl rfl ?_
          refine fw_iald hx hb hE.1.1 hw (g := ((gnM μ w no p1 i).1)) hR.a16 0 rfl (vp_in_nI (by omega) (by decide)) dX9_garnishes_120 ?_
          rw [nI_clamp (n := (i % no)) (by omega)]
          refine lv_iload hx hb dX9_garnishes_121 (lv_at hl 0 rfl) ?_
          refine lv_isub hx hb dX9_garnishes_123 ?_
          refine fw_iast hx hb hE.1.1 hw (g := ((gnM μ w no p1 i).1)) hR.a16 0 rfl (vp_in_nI (by omega) (by decide)) dX9_garnishes_124 (fun H locs hw => ?_)
          rw [nI_clamp (n := (i % no)) (by omega)] at hw
          obtain ⟨f22, ef22⟩ : ∃ z, z = fw_up fa (β 16) (.inl (y 0, 20, .inl (va_up ((gnM μ w no p1 i).1) (i % no) ((((gnM μ w no p1 i).1) (i % no)) - (lst (lst (((gnM μ w no p1 i).1) (i % no)) ((μ 17) (i % no))) 0))))) := ⟨_, rfl⟩
          have hw : fw_S D A s.heap f22 H locs := by rw [ef22]; exact hw
          have hR : Rm y (up2 (upA μ 16 (gnM μ w no p1 i).1) 16 (i % no) ((((gnM μ w no p1 i).1) (i % no)) - (lst (lst (((gnM μ w no p1 i).1) (i % no)) ((μ 17) (i % no))) 0))) β f22 := by rw [ef22]; exact hR.s16 (i % no) ((((gnM μ w no p1 i).1) (i % no)) - (lst (lst (((gnM μ w no p1 i).1) (i % no)) ((μ 17) (i % no))) 0))
          refine lv_iload_n hx hb dX9_garnishes_125 rfl (lv_at hl 5 rfl) ?_
          refine lv_iload hx hb dX9_garnishes_126 (lv_at hl 0 rfl) ?_
          refine lv_isub hx hb dX9_garnishes_128 ?_
          refine lv_istore_n (lv' := [(3, .int (((gnM μ w no p1 i).2) - (lst (lst (((gnM μ w no p1 i).1) (i % no)) ((μ 17) (i % no))) 0))), (8, .int (lst (lst (((gnM μ w no p1 i).1) (i % no)) ((μ 17) (i % no))) 0)), (7, .int 0), (6, .int 1), (5, .int (nI (i % no))), (4, .int (nI i)), (0, .ref (β 0)), (1, .int (nI w)), (2, .int p1)]) hx hb dX9_garnishes_129 rfl hl (by decide) rfl (fun ls hl => ?_)
          refine lv_iinc (v := (nI (i + 1))) (lv' := [(4, .int (nI (i + 1))), (3, .int (((gnM μ w no p1 i).2) - (lst (lst (((gnM μ w no p1 i).1) (i % no)) ((μ 17) (i % no))) 0))), (8, .int (lst (lst (((gnM μ w no p1 i).1) (i % no)) ((μ 17) (i % no))) 0)), (7, .int 0), (6, .int 1), (5, .int (nI (i % no))), (0, .ref (β 0)), (1, .int (nI w)), (2, .int p1)]) hx hb dX9_garnishes_130 hl (k := 5) rfl (nI_1 (i)) (by decide) rfl (fun ls hl => ?_)
          refine lv_goto (tgt := 5) hx hb dX9_garnishes_133 (by decide) ?_
          have hits : itsM μ w no i (gnM μ w no p1 i).1 (gnM μ w no p1 i).2 = (lst (lst (((gnM μ w no p1 i).1) (i % no)) ((μ 17) (i % no))) 0) := by unfold itsM; rw [if_pos ⟨c_2, c_8⟩, if_neg (Int32.not_lt.mpr c_14)]
          exact IH (i + 1, f22) _ _ _ (by dsimp only; omega) ⟨by dsimp only; omega, by show Rm y (upA μ 16 (va_up (gnM μ w no p1 i).1 (i % no) ((gnM μ w no p1 i).1 (i % no) - itsM μ w no i (gnM μ w no p1 i).1 (gnM μ w no p1 i).2))) β _; rw [hits, ← upA_up2]; exact hR⟩ hw (by rw [show (gnM μ w no p1 (i + 1, f22).1).2 = (gnM μ w no p1 i).2 - itsM μ w no i (gnM μ w no p1 i).1 (gnM μ w no p1 i).2 from rfl, hits]; exact lv_sub hl [0, 1, 6, 7, 8] rfl)
        · refine lv_iload_n hx hb dX9_garnishes_68 rfl (lv_at hl 3 rfl) ?_
          refine lv_aload_n hx hb dX9_garnishes_69 rfl (lv_at hl 4 rfl) ?_
          refine fw_get hx hb hts hown hE.1.1 hw (ci := 9) (fs := [.int (μ 0 0), .int (μ 1 0), .int (μ 2 0), .ref (β 3), .ref (β 4), .ref (β 5), .ref (β 6), .ref (β 7), .ref (β 8), .ref (β 9), .ref (β 10), .ref (β 11), .ref (β 12), .int (μ 13 0), .ref (β 14), .ref (β 15), .ref (β 16), .ref (β 17), .int (μ 18 0), .ref (β 19), .ref (β 20), .int (μ 21 0), .ref (β 22), .ref (β 23), .ref (β 24)]) (v := .int (μ 18 0)) hR.o iX9_garnishes_9 rfl 18 (by decide) rfl (by decide +kernel) dX9_garnishes_70 ?_
          refine lv_isub hx hb dX9_garnishes_73 ?_
          refine lv_goto (tgt := 78) hx hb dX9_garnishes_74 (by decide) ?_
          refine lv_istore (lv' := [(7, .int (((gnM μ w no p1 i).2) - (μ 18 0))), (6, .int 1), (5, .int (nI (i % no))), (4, .int (nI i)), (3, .int ((gnM μ w no p1 i).2)), (0, .ref (β 0)), (1, .int (nI w)), (2, .int p1)]) hx hb dX9_garnishes_78 hl (by decide) rfl (fun ls hl => ?_)
          refine lv_iload hx hb dX9_garnishes_80 (lv_at hl 1 rfl) ?_
          refine lv_if_eq (tgt := 110) hx hb dX9_garnishes_82 (by decide) (fun c_23 => absurd c_23 (by decide)) (fun _ => ?_)
          refine lv_aload_n hx hb dX9_garnishes_85 rfl (lv_at hl 5 rfl) ?_
          refine fw_get hx hb hts hown hE.1.1 hw (ci := 9) (fs := [.int (μ 0 0), .int (μ 1 0), .int (μ 2 0), .ref (β 3), .ref (β 4), .ref (β 5), .ref (β 6), .ref (β 7), .ref (β 8), .ref (β 9), .ref (β 10), .ref (β 11), .ref (β 12), .int (μ 13 0), .ref (β 14), .ref (β 15), .ref (β 16), .ref (β 17), .int (μ 18 0), .ref (β 19), .ref (β 20), .int (μ 21 0), .ref (β 22), .ref (β 23), .ref (β 24)]) (v := .ref (β 16)) hR.o iX9_garnishes_9 rfl 16 (by decide) rfl (by decide +kernel) dX9_garnishes_86 ?_
          refine lv_iload hx hb dX9_garnishes_89 (lv_at hl 2 rfl) ?_
          refine fw_iald hx hb hE.1.1 hw (g := ((gnM μ w no p1 i).1)) hR.a16 0 rfl (vp_in_nI (by omega) (by decide)) dX9_garnishes_91 ?_
          rw [nI_clamp (n := (i % no)) (by omega)]
          refine lv_aload_n hx hb dX9_garnishes_92 rfl (lv_at hl 5 rfl) ?_
          refine fw_get hx hb hts hown hE.1.1 hw (ci := 9) (fs := [.int (μ 0 0), .int (μ 1 0), .int (μ 2 0), .ref (β 3), .ref (β 4), .ref (β 5), .ref (β 6), .ref (β 7), .ref (β 8), .ref (β 9), .ref (β 10), .ref (β 11), .ref (β 12), .int (μ 13 0), .ref (β 14), .ref (β 15), .ref (β 16), .ref (β 17), .int (μ 18 0), .ref (β 19), .ref (β 20), .int (μ 21 0), .ref (β 22), .ref (β 23), .ref (β 24)]) (v := .ref (β 17)) hR.o iX9_garnishes_9 rfl 17 (by decide) rfl (by decide +kernel) dX9_garnishes_93 ?_
          refine lv_iload hx hb dX9_garnishes_96 (lv_at hl 2 rfl) ?_
          refine fw_iald hx hb hE.1.1 hw (g := (μ 17)) hR.a17 0 rfl (vp_in_nI (by omega) (by decide)) dX9_garnishes_98 ?_
          rw [nI_clamp (n := (i % no)) (by omega)]
          refine fw_callSi hx hb hml hown hts hE hw [.int (((gnM μ w no p1 i).1) (i % no)), .int ((μ 17) (i % no))] [] (c_X9_least l D A y sa fa (((gnM μ w no p1 i).1) (i % no)) ((μ 17) (i % no))) (va_cwS 2 hts gX9_garnishes_X9_least rfl rfl rfl (by decide +kernel) ⟨Nat.le_of_ble_eq_true rfl, Nat.le_of_ble_eq_true rfl⟩) rfl hl.1 rfl (Nat.le_of_ble_eq_true rfl) dX9_garnishes_99 ⟨Nat.le_of_ble_eq_true rfl, Nat.le_of_ble_eq_true rfl⟩ (fun r24 f25 H locs hp26 hw => ?_)
          obtain ⟨hp26a, hp26b⟩ := hp26
          rw [hp26b] at hw
          rw [hp26a]
          refine lv_iload hx hb dX9_garnishes_102 (lv_at hl 0 rfl) ?_
          refine fw_callSi hx hb hml hown hts hE hw [.int (lst (((gnM μ w no p1 i).1) (i % no)) ((μ 17) (i % no))), .int (((gnM μ w no p1 i).2) - (μ 18 0))] [] (c_X9_least l D A y sa fa (lst (((gnM μ w no p1 i).1) (i % no)) ((μ 17) (i % no))) (((gnM μ w no p1 i).2) - (μ 18 0))) (va_cwS 2 hts gX9_garnishes_X9_least rfl rfl rfl (by decide +kernel) ⟨Nat.le_of_ble_eq_true rfl, Nat.le_of_ble_eq_true rfl⟩) rfl hl.1 rfl (Nat.le_of_ble_eq_true rfl) dX9_garnishes_104 ⟨Nat.le_of_ble_eq_true rfl, Nat.le_of_ble_eq_true rfl⟩ (fun r27 f28 H locs hp29 hw => ?_)
          obtain ⟨hp29a, hp29b⟩ := hp29
          rw [hp29b] at hw
          rw [hp29a]
          refine lv_goto (tgt := 111) hx hb dX9_garnishes_107 (by decide) ?_
          refine lv_istore (lv' := [(8, .int (lst (lst (((gnM μ w no p1 i).1) (i % no)) ((μ 17) (i % no))) (((gnM μ w no p1 i).2) - (μ 18 0)))), (7, .int (((gnM μ w no p1 i).2) - (μ 18 0))), (6, .int 1), (5, .int (nI (i % no))), (4, .int (nI i)), (3, .int ((gnM μ w no p1 i).2)), (0, .ref (β 0)), (1, .int (nI w)), (2, .int p1)]) hx hb dX9_garnishes_111 hl (by decide) rfl (fun ls hl => ?_)
          refine lv_aload_n hx hb dX9_garnishes_113 rfl (lv_at hl 6 rfl) ?_
          refine fw_get hx hb hts hown hE.1.1 hw (ci := 9) (fs := [.int (μ 0 0), .int (μ 1 0), .int (μ 2 0), .ref (β 3), .ref (β 4), .ref (β 5), .ref (β 6), .ref (β 7), .ref (β 8), .ref (β 9), .ref (β 10), .ref (β 11), .ref (β 12), .int (μ 13 0), .ref (β 14), .ref (β 15), .ref (β 16), .ref (β 17), .int (μ 18 0), .ref (β 19), .ref (β 20), .int (μ 21 0), .ref (β 22), .ref (β 23), .ref (β 24)]) (v := .ref (β 16)) hR.o iX9_garnishes_9 rfl 16 (by decide) rfl (by decide +kernel) dX9_garnishes_114 ?_
          refine lv_iload hx hb dX9_garnishes_117 (lv_at hl 3 rfl) ?_
          refine lv_dup2_11 hx hb dX9_garnishes_119 rfl rfl ?_
          refine fw_iald hx hb hE.1.1 hw (g := ((gnM μ w no p1 i).1)) hR.a16 0 rfl (vp_in_nI (by omega) (by decide)) dX9_garnishes_120 ?_
          rw [nI_clamp (n := (i % no)) (by omega)]
          refine lv_iload hx hb dX9_garnishes_121 (lv_at hl 0 rfl) ?_
          refine lv_isub hx hb dX9_garnishes_123 ?_
          refine fw_iast hx hb hE.1.1 hw (g := ((gnM μ w no p1 i).1)) hR.a16 0 rfl (vp_in_nI (by omega) (by decide)) dX9_garnishes_124 (fun H locs hw => ?_)
          rw [nI_clamp (n := (i % no)) (by omega)] at hw
          obtain ⟨f30, ef30⟩ : ∃ z, z = fw_up fa (β 16) (.inl (y 0, 20, .inl (va_up ((gnM μ w no p1 i).1) (i % no) ((((gnM μ w no p1 i).1) (i % no)) - (lst (lst (((gnM μ w no p1 i).1) (i % no)) ((μ 17) (i % no))) (((gnM μ w no p1 i).2) - (μ 18 0))))))) := ⟨_, rfl⟩
          have hw : fw_S D A s.heap f30 H locs := by rw [ef30]; exact hw
          have hR : Rm y (up2 (upA μ 16 (gnM μ w no p1 i).1) 16 (i % no) ((((gnM μ w no p1 i).1) (i % no)) - (lst (lst (((gnM μ w no p1 i).1) (i % no)) ((μ 17) (i % no))) (((gnM μ w no p1 i).2) - (μ 18 0))))) β f30 := by rw [ef30]; exact hR.s16 (i % no) ((((gnM μ w no p1 i).1) (i % no)) - (lst (lst (((gnM μ w no p1 i).1) (i % no)) ((μ 17) (i % no))) (((gnM μ w no p1 i).2) - (μ 18 0))))
          refine lv_iload_n hx hb dX9_garnishes_125 rfl (lv_at hl 5 rfl) ?_
          refine lv_iload hx hb dX9_garnishes_126 (lv_at hl 0 rfl) ?_
          refine lv_isub hx hb dX9_garnishes_128 ?_
          refine lv_istore_n (lv' := [(3, .int (((gnM μ w no p1 i).2) - (lst (lst (((gnM μ w no p1 i).1) (i % no)) ((μ 17) (i % no))) (((gnM μ w no p1 i).2) - (μ 18 0))))), (8, .int (lst (lst (((gnM μ w no p1 i).1) (i % no)) ((μ 17) (i % no))) (((gnM μ w no p1 i).2) - (μ 18 0)))), (7, .int (((gnM μ w no p1 i).2) - (μ 18 0))), (6, .int 1), (5, .int (nI (i % no))), (4, .int (nI i)), (0, .ref (β 0)), (1, .int (nI w)), (2, .int p1)]) hx hb dX9_garnishes_129 rfl hl (by decide) rfl (fun ls hl => ?_)
          refine lv_iinc (v := (nI (i + 1))) (lv' := [(4, .int (nI (i + 1))), (3, .int (((gnM μ w no p1 i).2) - (lst (lst (((gnM μ w no p1 i).1) (i % no)) ((μ 17) (i % no))) (((gnM μ w no p1 i).2) - (μ 18 0))))), (8, .int (lst (lst (((gnM μ w no p1 i).1) (i % no)) ((μ 17) (i % no))) (((gnM μ w no p1 i).2) - (μ 18 0)))), (7, .int (((gnM μ w no p1 i).2) - (μ 18 0))), (6, .int 1), (5, .int (nI (i % no))), (0, .ref (β 0)), (1, .int (nI w)), (2, .int p1)]) hx hb dX9_garnishes_130 hl (k := 5) rfl (nI_1 (i)) (by decide) rfl (fun ls hl => ?_)
          refine lv_goto (tgt := 5) hx hb dX9_garnishes_133 (by decide) ?_
          have hits : itsM μ w no i (gnM μ w no p1 i).1 (gnM μ w no p1 i).2 = (lst (lst (((gnM μ w no p1 i).1) (i % no)) ((μ 17) (i % no))) (((gnM μ w no p1 i).2) - (μ 18 0))) := by unfold itsM; rw [if_pos ⟨c_2, c_8⟩, if_pos (Int32.not_le.mp c_14)]
          exact IH (i + 1, f30) _ _ _ (by dsimp only; omega) ⟨by dsimp only; omega, by show Rm y (upA μ 16 (va_up (gnM μ w no p1 i).1 (i % no) ((gnM μ w no p1 i).1 (i % no) - itsM μ w no i (gnM μ w no p1 i).1 (gnM μ w no p1 i).2))) β _; rw [hits, ← upA_up2]; exact hR⟩ hw (by rw [show (gnM μ w no p1 (i + 1, f30).1).2 = (gnM μ w no p1 i).2 - itsM μ w no i (gnM μ w no p1 i).1 (gnM μ w no p1 i).2 from rfl, hits]; exact lv_sub hl [0, 1, 6, 7, 8] rfl)

theorem iX9_pays_9 : ∀ w ∈ wsX90, w ∈ wsX9_pays := by decide +kernel
set_option maxHeartbeats 4000000 in
set_option maxRecDepth 100000 in
/-- the reference: pays -/
theorem c_X9_pays (l : Launch) (D : va_G) (A : Nat → Prop) (y : Nat → ClassId) (sa : Nat → Nat) (f : fw_F) (β : Nat → Nat) (μ : mS) (nw wk no nt : Nat) (hI : Im μ nw wk no nt) (w ev : Nat) (p1 : Int32) (hw8 : w < 8) (hev3 : ev < 3) (hev : μ 3 w = nI ev) (hk31 : wk < 31) (hR : Rm y μ β f) : Met l yX9_pays wsX9_pays ({ frames := 2, cells := 0, slots := 0, locals := 49 } : Room) (cPc D A y sa f [.ref (β 0), .int (nI w), .int p1]) (cQv D A (fun f1 => Rm y (pyM μ w wk no ev p1) β f1)) 0 0 A := by
  refine fw_met (by decide) rfl [.ref (β 0), .int (nI w), .int p1] (Nat.le_of_ble_eq_true rfl) ?_
  intro p e s m args below meth c ls I hin hE hw hl
  obtain ⟨hx, hb, hr, hts, hown, hlocks, hml⟩ := I
  have hown : s.vm.findClass RX9 = some m.cls := hown
  have hl : lv_has ls 6 [(0, .ref (β 0)), (1, .int (nI w)), (2, .int p1)] := hl
  obtain ⟨hI1, hI2, hI3, hI4, hI5, hI6, hI7, hI8, hI9, hI10, hI11, hI12, hI13⟩ := id hI
  refine lv_aload_n hx hb dX9_pays_0 rfl (lv_at hl 0 rfl) ?_
  refine fw_get hx hb hts hown hE.1.1 hw (ci := 9) (fs := [.int (μ 0 0), .int (μ 1 0), .int (μ 2 0), .ref (β 3), .ref (β 4), .ref (β 5), .ref (β 6), .ref (β 7), .ref (β 8), .ref (β 9), .ref (β 10), .ref (β 11), .ref (β 12), .int (μ 13 0), .ref (β 14), .ref (β 15), .ref (β 16), .ref (β 17), .int (μ 18 0), .ref (β 19), .ref (β 20), .int (μ 21 0), .ref (β 22), .ref (β 23), .ref (β 24)]) (v := .ref (β 3)) hR.o iX9_pays_9 rfl 3 (by decide) rfl (by decide +kernel) dX9_pays_1 ?_
  refine lv_iload_n hx hb dX9_pays_4 rfl (lv_at hl 1 rfl) ?_
  refine fw_iald hx hb hE.1.1 hw (g := (μ 3)) hR.a3 0 rfl (vp_in_nI (by omega) (by decide)) dX9_pays_5 ?_
  rw [nI_clamp (n := w) (by omega)]
  rw [hev]
  refine lv_istore_n (lv' := [(3, .int (nI ev)), (0, .ref (β 0)), (1, .int (nI w)), (2, .int p1)]) hx hb dX9_pays_6 rfl hl (by decide) rfl (fun ls hl => ?_)
  refine lv_iconst (v := 4) hx hb dX9_pays_7 (by decide) ?_
  refine lv_bipush (v := 31) hx hb dX9_pays_8 (by decide) ?_
  refine lv_iload_n hx hb dX9_pays_10 rfl (lv_at hl 2 rfl) ?_
  refine lv_imul hx hb dX9_pays_11 ?_
  rw [show ((31 * (nI w)) : Int32) = (nI (31 * w)) from nI_mul (31) (w)]
  refine lv_aload_n hx hb dX9_pays_12 rfl (lv_at hl 1 rfl) ?_
  refine fw_get hx hb hts hown hE.1.1 hw (ci := 9) (fs := [.int (μ 0 0), .int (μ 1 0), .int (μ 2 0), .ref (β 3), .ref (β 4), .ref (β 5), .ref (β 6), .ref (β 7), .ref (β 8), .ref (β 9), .ref (β 10), .ref (β 11), .ref (β 12), .int (μ 13 0), .ref (β 14), .ref (β 15), .ref (β 16), .ref (β 17), .int (μ 18 0), .ref (β 19), .ref (β 20), .int (μ 21 0), .ref (β 22), .ref (β 23), .ref (β 24)]) (v := .int (μ 1 0)) hR.o iX9_pays_9 rfl 1 (by decide) rfl (by decide +kernel) dX9_pays_13 ?_
  rw [hI3]
  refine lv_iadd hx hb dX9_pays_16 ?_
  rw [show (((nI (31 * w)) + (nI wk)) : Int32) = (nI (((31 * w)) + wk)) from nI_add ((31 * w)) (wk)]
  refine lv_imul hx hb dX9_pays_17 ?_
  rw [show ((4 * (nI (((31 * w)) + wk))) : Int32) = (nI (4 * ((((31 * w)) + wk)))) from nI_mul (4) ((((31 * w)) + wk))]
  refine lv_istore (lv' := [(4, .int (nI (4 * ((((31 * w)) + wk))))), (3, .int (nI ev)), (0, .ref (β 0)), (1, .int (nI w)), (2, .int p1)]) hx hb dX9_pays_18 hl (by decide) rfl (fun ls hl => ?_)
  refine lv_aload_n hx hb dX9_pays_20 rfl (lv_at hl 2 rfl) ?_
  refine fw_get hx hb hts hown hE.1.1 hw (ci := 9) (fs := [.int (μ 0 0), .int (μ 1 0), .int (μ 2 0), .ref (β 3), .ref (β 4), .ref (β 5), .ref (β 6), .ref (β 7), .ref (β 8), .ref (β 9), .ref (β 10), .ref (β 11), .ref (β 12), .int (μ 13 0), .ref (β 14), .ref (β 15), .ref (β 16), .ref (β 17), .int (μ 18 0), .ref (β 19), .ref (β 20), .int (μ 21 0), .ref (β 22), .ref (β 23), .ref (β 24)]) (v := .ref (β 11)) hR.o iX9_pays_9 rfl 11 (by decide) rfl (by decide +kernel) dX9_pays_21 ?_
  refine lv_iload_n hx hb dX9_pays_24 rfl (lv_at hl 3 rfl) ?_
  refine fw_iald hx hb hE.1.1 hw (g := (μ 11)) hR.a11 0 rfl (vp_in_nI (by omega) (by decide)) dX9_pays_25 ?_
  rw [nI_clamp (n := w) (by omega)]
  refine lv_iload_n hx hb dX9_pays_26 rfl (lv_at hl 4 rfl) ?_
  refine lv_bipush (v := 10) hx hb dX9_pays_27 (by decide) ?_
  refine lv_idiv hx hb dX9_pays_29 (by decide) ?_
  refine fw_callSi hx hb hml hown hts hE hw [.int ((μ 11) w), .int (p1 / 10)] [] (c_X9_least l D A y sa f ((μ 11) w) (p1 / 10)) (va_cwS 2 hts gX9_pays_X9_least rfl rfl rfl (by decide +kernel) ⟨Nat.le_of_ble_eq_true rfl, Nat.le_of_ble_eq_true rfl⟩) rfl hl.1 rfl (Nat.le_of_ble_eq_true rfl) dX9_pays_30 ⟨Nat.le_of_ble_eq_true rfl, Nat.le_of_ble_eq_true rfl⟩ (fun r1 f2 H locs hp3 hw => ?_)
  obtain ⟨hp3a, hp3b⟩ := hp3
  rw [hp3b] at hw
  rw [hp3a]
  refine lv_istore (lv' := [(5, .int (lst ((μ 11) w) (p1 / 10))), (4, .int (nI (4 * ((((31 * w)) + wk))))), (3, .int (nI ev)), (0, .ref (β 0)), (1, .int (nI w)), (2, .int p1)]) hx hb dX9_pays_33 hl (by decide) rfl (fun ls hl => ?_)
  refine lv_aload_n hx hb dX9_pays_35 rfl (lv_at hl 3 rfl) ?_
  refine fw_get hx hb hts hown hE.1.1 hw (ci := 9) (fs := [.int (μ 0 0), .int (μ 1 0), .int (μ 2 0), .ref (β 3), .ref (β 4), .ref (β 5), .ref (β 6), .ref (β 7), .ref (β 8), .ref (β 9), .ref (β 10), .ref (β 11), .ref (β 12), .int (μ 13 0), .ref (β 14), .ref (β 15), .ref (β 16), .ref (β 17), .int (μ 18 0), .ref (β 19), .ref (β 20), .int (μ 21 0), .ref (β 22), .ref (β 23), .ref (β 24)]) (v := .ref (β 10)) hR.o iX9_pays_9 rfl 10 (by decide) rfl (by decide +kernel) dX9_pays_36 ?_
  refine lv_iload_n hx hb dX9_pays_39 rfl (lv_at hl 4 rfl) ?_
  refine lv_dup2_11 hx hb dX9_pays_40 rfl rfl ?_
  refine fw_iald hx hb hE.1.1 hw (g := (μ 10)) hR.a10 0 rfl (vp_in_nI (by omega) (by decide)) dX9_pays_41 ?_
  rw [nI_clamp (n := w) (by omega)]
  refine lv_iload_n hx hb dX9_pays_42 rfl (lv_at hl 5 rfl) ?_
  refine lv_iadd hx hb dX9_pays_43 ?_
  refine fw_iast hx hb hE.1.1 hw (g := (μ 10)) hR.a10 0 rfl (vp_in_nI (by omega) (by decide)) dX9_pays_44 (fun H locs hw => ?_)
  rw [nI_clamp (n := w) (by omega)] at hw
  obtain ⟨f4, ef4⟩ : ∃ z, z = fw_up f (β 10) (.inl (y 0, 8, .inl (va_up (μ 10) w (((μ 10) w) + p1)))) := ⟨_, rfl⟩
  have hw : fw_S D A s.heap f4 H locs := by rw [ef4]; exact hw
  have hR : Rm y (up2 μ 10 w (((μ 10) w) + p1)) β f4 := by rw [ef4]; exact hR.s10 w (((μ 10) w) + p1)
  refine lv_aload_n hx hb dX9_pays_45 rfl (lv_at hl 3 rfl) ?_
  refine fw_get hx hb hts hown hE.1.1 hw (ci := 9) (fs := [.int (μ 0 0), .int (μ 1 0), .int (μ 2 0), .ref (β 3), .ref (β 4), .ref (β 5), .ref (β 6), .ref (β 7), .ref (β 8), .ref (β 9), .ref (β 10), .ref (β 11), .ref (β 12), .int (μ 13 0), .ref (β 14), .ref (β 15), .ref (β 16), .ref (β 17), .int (μ 18 0), .ref (β 19), .ref (β 20), .int (μ 21 0), .ref (β 22), .ref (β 23), .ref (β 24)]) (v := .ref (β 11)) hR.o iX9_pays_9 rfl 11 (by decide) rfl (by decide +kernel) dX9_pays_46 ?_
  refine lv_iload_n hx hb dX9_pays_49 rfl (lv_at hl 4 rfl) ?_
  refine lv_dup2_11 hx hb dX9_pays_50 rfl rfl ?_
  refine fw_iald hx hb hE.1.1 hw (g := (μ 11)) hR.a11 0 rfl (vp_in_nI (by omega) (by decide)) dX9_pays_51 ?_
  rw [nI_clamp (n := w) (by omega)]
  refine lv_iload hx hb dX9_pays_52 (lv_at hl 0 rfl) ?_
  refine lv_isub hx hb dX9_pays_54 ?_
  refine fw_iast hx hb hE.1.1 hw (g := (μ 11)) hR.a11 0 rfl (vp_in_nI (by omega) (by decide)) dX9_pays_55 (fun H locs hw => ?_)
  rw [nI_clamp (n := w) (by omega)] at hw
  obtain ⟨f5, ef5⟩ : ∃ z, z = fw_up f4 (β 11) (.inl (y 0, 8, .inl (va_up (μ 11) w (((μ 11) w) - (lst ((μ 11) w) (p1 / 10)))))) := ⟨_, rfl⟩
  have hw : fw_S D A s.heap f5 H locs := by rw [ef5]; exact hw
  have hR : Rm y (up2 (up2 μ 10 w (((μ 10) w) + p1)) 11 w (((μ 11) w) - (lst ((μ 11) w) (p1 / 10)))) β f5 := by rw [ef5]; exact hR.s11 w (((μ 11) w) - (lst ((μ 11) w) (p1 / 10)))
  refine lv_aload_n hx hb dX9_pays_56 rfl (lv_at hl 3 rfl) ?_
  refine fw_get hx hb hts hown hE.1.1 hw (ci := 9) (fs := [.int (μ 0 0), .int (μ 1 0), .int (μ 2 0), .ref (β 3), .ref (β 4), .ref (β 5), .ref (β 6), .ref (β 7), .ref (β 8), .ref (β 9), .ref (β 10), .ref (β 11), .ref (β 12), .int (μ 13 0), .ref (β 14), .ref (β 15), .ref (β 16), .ref (β 17), .int (μ 18 0), .ref (β 19), .ref (β 20), .int (μ 21 0), .ref (β 22), .ref (β 23), .ref (β 24)]) (v := .ref (β 19)) hR.o iX9_pays_9 rfl 19 (by decide) rfl (by decide +kernel) dX9_pays_57 ?_
  refine lv_iload_n hx hb dX9_pays_60 rfl (lv_at hl 2 rfl) ?_
  refine lv_dup2_11 hx hb dX9_pays_61 rfl rfl ?_
  refine fw_iald hx hb hE.1.1 hw (g := (μ 19)) hR.a19 0 rfl (vp_in_nI (by omega) (by decide)) dX9_pays_62 ?_
  rw [nI_clamp (n := ev) (by omega)]
  refine lv_iload hx hb dX9_pays_63 (lv_at hl 0 rfl) ?_
  refine lv_iload_n hx hb dX9_pays_65 rfl (lv_at hl 5 rfl) ?_
  refine lv_isub hx hb dX9_pays_66 ?_
  refine lv_iadd hx hb dX9_pays_67 ?_
  refine fw_iast hx hb hE.1.1 hw (g := (μ 19)) hR.a19 0 rfl (vp_in_nI (by omega) (by decide)) dX9_pays_68 (fun H locs hw => ?_)
  rw [nI_clamp (n := ev) (by omega)] at hw
  obtain ⟨f6, ef6⟩ : ∃ z, z = fw_up f5 (β 19) (.inl (y 0, 3, .inl (va_up (μ 19) ev (((μ 19) ev) + ((lst ((μ 11) w) (p1 / 10)) - p1))))) := ⟨_, rfl⟩
  have hw : fw_S D A s.heap f6 H locs := by rw [ef6]; exact hw
  have hR : Rm y (up2 (up2 (up2 μ 10 w (((μ 10) w) + p1)) 11 w (((μ 11) w) - (lst ((μ 11) w) (p1 / 10)))) 19 ev (((μ 19) ev) + ((lst ((μ 11) w) (p1 / 10)) - p1))) β f6 := by rw [ef6]; exact hR.s19 ev (((μ 19) ev) + ((lst ((μ 11) w) (p1 / 10)) - p1))
  refine lv_aload_n hx hb dX9_pays_69 rfl (lv_at hl 3 rfl) ?_
  refine fw_get hx hb hts hown hE.1.1 hw (ci := 9) (fs := [.int (μ 0 0), .int (μ 1 0), .int (μ 2 0), .ref (β 3), .ref (β 4), .ref (β 5), .ref (β 6), .ref (β 7), .ref (β 8), .ref (β 9), .ref (β 10), .ref (β 11), .ref (β 12), .int (μ 13 0), .ref (β 14), .ref (β 15), .ref (β 16), .ref (β 17), .int (μ 18 0), .ref (β 19), .ref (β 20), .int (μ 21 0), .ref (β 22), .ref (β 23), .ref (β 24)]) (v := .ref (β 12)) hR.o iX9_pays_9 rfl 12 (by decide) rfl (by decide +kernel) dX9_pays_70 ?_
  refine lv_iload hx hb dX9_pays_73 (lv_at hl 1 rfl) ?_
  refine lv_iconst (v := 0) hx hb dX9_pays_75 (by decide) ?_
  refine lv_iadd hx hb dX9_pays_76 ?_
  rw [show (((nI (4 * ((((31 * w)) + wk)))) + 0) : Int32) = (nI (((4 * ((((31 * w)) + wk)))) + 0)) from nI_add ((4 * ((((31 * w)) + wk)))) (0)]
  refine lv_iload_n hx hb dX9_pays_77 rfl (lv_at hl 5 rfl) ?_
  refine fw_iast hx hb hE.1.1 hw (g := (μ 12)) hR.a12 0 rfl (vp_in_nI (by omega) (by decide)) dX9_pays_78 (fun H locs hw => ?_)
  rw [nI_clamp (n := (((4 * ((((31 * w)) + wk)))) + 0)) (by omega)] at hw
  obtain ⟨f7, ef7⟩ : ∃ z, z = fw_up f6 (β 12) (.inl (y 0, 992, .inl (va_up (μ 12) (((4 * ((((31 * w)) + wk)))) + 0) p1))) := ⟨_, rfl⟩
  have hw : fw_S D A s.heap f7 H locs := by rw [ef7]; exact hw
  have hR : Rm y (up2 (up2 (up2 (up2 μ 10 w (((μ 10) w) + p1)) 11 w (((μ 11) w) - (lst ((μ 11) w) (p1 / 10)))) 19 ev (((μ 19) ev) + ((lst ((μ 11) w) (p1 / 10)) - p1))) 12 (((4 * ((((31 * w)) + wk)))) + 0) p1) β f7 := by rw [ef7]; exact hR.s12 (((4 * ((((31 * w)) + wk)))) + 0) p1
  refine lv_aload_n hx hb dX9_pays_79 rfl (lv_at hl 3 rfl) ?_
  refine fw_get hx hb hts hown hE.1.1 hw (ci := 9) (fs := [.int (μ 0 0), .int (μ 1 0), .int (μ 2 0), .ref (β 3), .ref (β 4), .ref (β 5), .ref (β 6), .ref (β 7), .ref (β 8), .ref (β 9), .ref (β 10), .ref (β 11), .ref (β 12), .int (μ 13 0), .ref (β 14), .ref (β 15), .ref (β 16), .ref (β 17), .int (μ 18 0), .ref (β 19), .ref (β 20), .int (μ 21 0), .ref (β 22), .ref (β 23), .ref (β 24)]) (v := .ref (β 12)) hR.o iX9_pays_9 rfl 12 (by decide) rfl (by decide +kernel) dX9_pays_80 ?_
  refine lv_iload hx hb dX9_pays_83 (lv_at hl 1 rfl) ?_
  refine lv_iconst (v := 1) hx hb dX9_pays_85 (by decide) ?_
  refine lv_iadd hx hb dX9_pays_86 ?_
  rw [show (((nI (4 * ((((31 * w)) + wk)))) + 1) : Int32) = (nI (((4 * ((((31 * w)) + wk)))) + 1)) from nI_add ((4 * ((((31 * w)) + wk)))) (1)]
  refine lv_iload hx hb dX9_pays_87 (lv_at hl 0 rfl) ?_
  refine fw_iast hx hb hE.1.1 hw (g := (va_up (μ 12) (((4 * ((((31 * w)) + wk)))) + 0) p1)) hR.a12 0 rfl (vp_in_nI (by omega) (by decide)) dX9_pays_89 (fun H locs hw => ?_)
  rw [nI_clamp (n := (((4 * ((((31 * w)) + wk)))) + 1)) (by omega)] at hw
  obtain ⟨f8, ef8⟩ : ∃ z, z = fw_up f7 (β 12) (.inl (y 0, 992, .inl (va_up (va_up (μ 12) (((4 * ((((31 * w)) + wk)))) + 0) p1) (((4 * ((((31 * w)) + wk)))) + 1) (lst ((μ 11) w) (p1 / 10))))) := ⟨_, rfl⟩
  have hw : fw_S D A s.heap f8 H locs := by rw [ef8]; exact hw
  have hR : Rm y (up2 (up2 (up2 (up2 (up2 μ 10 w (((μ 10) w) + p1)) 11 w (((μ 11) w) - (lst ((μ 11) w) (p1 / 10)))) 19 ev (((μ 19) ev) + ((lst ((μ 11) w) (p1 / 10)) - p1))) 12 (((4 * ((((31 * w)) + wk)))) + 0) p1) 12 (((4 * ((((31 * w)) + wk)))) + 1) (lst ((μ 11) w) (p1 / 10))) β f8 := by rw [ef8]; exact hR.s12 (((4 * ((((31 * w)) + wk)))) + 1) (lst ((μ 11) w) (p1 / 10))
  refine lv_aload_n hx hb dX9_pays_90 rfl (lv_at hl 3 rfl) ?_
  refine fw_get hx hb hts hown hE.1.1 hw (ci := 9) (fs := [.int (μ 0 0), .int (μ 1 0), .int (μ 2 0), .ref (β 3), .ref (β 4), .ref (β 5), .ref (β 6), .ref (β 7), .ref (β 8), .ref (β 9), .ref (β 10), .ref (β 11), .ref (β 12), .int (μ 13 0), .ref (β 14), .ref (β 15), .ref (β 16), .ref (β 17), .int (μ 18 0), .ref (β 19), .ref (β 20), .int (μ 21 0), .ref (β 22), .ref (β 23), .ref (β 24)]) (v := .ref (β 12)) hR.o iX9_pays_9 rfl 12 (by decide) rfl (by decide +kernel) dX9_pays_91 ?_
  refine lv_iload hx hb dX9_pays_94 (lv_at hl 1 rfl) ?_
  refine lv_iconst (v := 2) hx hb dX9_pays_96 (by decide) ?_
  refine lv_iadd hx hb dX9_pays_97 ?_
  rw [show (((nI (4 * ((((31 * w)) + wk)))) + 2) : Int32) = (nI (((4 * ((((31 * w)) + wk)))) + 2)) from nI_add ((4 * ((((31 * w)) + wk)))) (2)]
  refine lv_aload_n hx hb dX9_pays_98 rfl (lv_at hl 3 rfl) ?_
  refine lv_iload_n hx hb dX9_pays_99 rfl (lv_at hl 4 rfl) ?_
  refine lv_iload_n hx hb dX9_pays_100 rfl (lv_at hl 5 rfl) ?_
  refine lv_iload hx hb dX9_pays_101 (lv_at hl 0 rfl) ?_
  refine lv_isub hx hb dX9_pays_103 ?_
  refine fw_callVi hx hb hml hown hts hE hw [.int (nI w), .int (p1 - (lst ((μ 11) w) (p1 / 10)))] [.int (nI (((4 * ((((31 * w)) + wk)))) + 2)), .ref (β 12)] (c_X9_garnishes l D A y sa f8 β (up2 (up2 (up2 (up2 (up2 μ 10 w (((μ 10) w) + p1)) 11 w (((μ 11) w) - (lst ((μ 11) w) (p1 / 10)))) 19 ev (((μ 19) ev) + ((lst ((μ 11) w) (p1 / 10)) - p1))) 12 (((4 * ((((31 * w)) + wk)))) + 0) p1) 12 (((4 * ((((31 * w)) + wk)))) + 1) (lst ((μ 11) w) (p1 / 10))) nw wk no nt hI w (p1 - (lst ((μ 11) w) (p1 / 10))) hR) (cwV 2 hts gX9_pays_X9_garnishes rfl rfl rfl (by decide +kernel) ⟨Nat.le_of_ble_eq_true rfl, Nat.le_of_ble_eq_true rfl⟩) (ci := 9) rfl rfl hR.o rfl hl.1 rfl (Nat.le_of_ble_eq_true rfl) dX9_pays_104 ⟨Nat.le_of_ble_eq_true rfl, Nat.le_of_ble_eq_true rfl⟩ (fun r9 f10 H locs hp11 hw => ?_)
  obtain ⟨hp11a, hR⟩ := hp11
  have hp11c : r9 = grM (pyA μ w wk ev p1) w no (p1 - (lst (μ 11 w) (p1 / 10))) := hp11a
  rw [hp11c]
  have hR : Rm y (upA (pyA μ w wk ev p1) 16 (gnM (pyA μ w wk ev p1) w no (p1 - (lst (μ 11 w) (p1 / 10))) (3 * no)).1) β f10 := hR
  refine fw_iast hx hb hE.1.1 hw (g := (va_up (va_up (μ 12) (((4 * ((((31 * w)) + wk)))) + 0) p1) (((4 * ((((31 * w)) + wk)))) + 1) (lst ((μ 11) w) (p1 / 10)))) hR.a12 0 rfl (vp_in_nI (by omega) (by decide)) dX9_pays_107 (fun H locs hw => ?_)
  rw [nI_clamp (n := (((4 * ((((31 * w)) + wk)))) + 2)) (by omega)] at hw
  obtain ⟨f12, ef12⟩ : ∃ z, z = fw_up f10 (β 12) (.inl (y 0, 992, .inl (va_up (va_up (va_up (μ 12) (((4 * ((((31 * w)) + wk)))) + 0) p1) (((4 * ((((31 * w)) + wk)))) + 1) (lst ((μ 11) w) (p1 / 10))) (((4 * ((((31 * w)) + wk)))) + 2) (grM (pyA μ w wk ev p1) w no (p1 - (lst (μ 11 w) (p1 / 10))))))) := ⟨_, rfl⟩
  have hw : fw_S D A s.heap f12 H locs := by rw [ef12]; exact hw
  have hR : Rm y (up2 (upA (pyA μ w wk ev p1) 16 (gnM (pyA μ w wk ev p1) w no (p1 - (lst (μ 11 w) (p1 / 10))) (3 * no)).1) 12 (((4 * ((((31 * w)) + wk)))) + 2) (grM (pyA μ w wk ev p1) w no (p1 - (lst (μ 11 w) (p1 / 10))))) β f12 := by rw [ef12]; exact hR.s12 (((4 * ((((31 * w)) + wk)))) + 2) (grM (pyA μ w wk ev p1) w no (p1 - (lst (μ 11 w) (p1 / 10))))
  refine lv_aload_n hx hb dX9_pays_108 rfl (lv_at hl 3 rfl) ?_
  refine fw_get hx hb hts hown hE.1.1 hw (ci := 9) (fs := [.int (μ 0 0), .int (μ 1 0), .int (μ 2 0), .ref (β 3), .ref (β 4), .ref (β 5), .ref (β 6), .ref (β 7), .ref (β 8), .ref (β 9), .ref (β 10), .ref (β 11), .ref (β 12), .int (μ 13 0), .ref (β 14), .ref (β 15), .ref (β 16), .ref (β 17), .int (μ 18 0), .ref (β 19), .ref (β 20), .int (μ 21 0), .ref (β 22), .ref (β 23), .ref (β 24)]) (v := .ref (β 12)) hR.o iX9_pays_9 rfl 12 (by decide) rfl (by decide +kernel) dX9_pays_109 ?_
  refine lv_iload hx hb dX9_pays_112 (lv_at hl 1 rfl) ?_
  refine lv_iconst (v := 3) hx hb dX9_pays_114 (by decide) ?_
  refine lv_iadd hx hb dX9_pays_115 ?_
  rw [show (((nI (4 * ((((31 * w)) + wk)))) + 3) : Int32) = (nI (((4 * ((((31 * w)) + wk)))) + 3)) from nI_add ((4 * ((((31 * w)) + wk)))) (3)]
  refine lv_iload_n hx hb dX9_pays_116 rfl (lv_at hl 5 rfl) ?_
  refine lv_iload hx hb dX9_pays_117 (lv_at hl 0 rfl) ?_
  refine lv_isub hx hb dX9_pays_119 ?_
  refine lv_aload_n hx hb dX9_pays_120 rfl (lv_at hl 3 rfl) ?_
  refine fw_get hx hb hts hown hE.1.1 hw (ci := 9) (fs := [.int (μ 0 0), .int (μ 1 0), .int (μ 2 0), .ref (β 3), .ref (β 4), .ref (β 5), .ref (β 6), .ref (β 7), .ref (β 8), .ref (β 9), .ref (β 10), .ref (β 11), .ref (β 12), .int (μ 13 0), .ref (β 14), .ref (β 15), .ref (β 16), .ref (β 17), .int (μ 18 0), .ref (β 19), .ref (β 20), .int (μ 21 0), .ref (β 22), .ref (β 23), .ref (β 24)]) (v := .ref (β 12)) hR.o iX9_pays_9 rfl 12 (by decide) rfl (by decide +kernel) dX9_pays_121 ?_
  refine lv_iload hx hb dX9_pays_124 (lv_at hl 1 rfl) ?_
  refine lv_iconst (v := 2) hx hb dX9_pays_126 (by decide) ?_
  refine lv_iadd hx hb dX9_pays_127 ?_
  rw [show (((nI (4 * ((((31 * w)) + wk)))) + 2) : Int32) = (nI (((4 * ((((31 * w)) + wk)))) + 2)) from nI_add ((4 * ((((31 * w)) + wk)))) (2)]
  refine fw_iald hx hb hE.1.1 hw (g := (va_up (va_up (va_up (μ 12) (((4 * ((((31 * w)) + wk)))) + 0) p1) (((4 * ((((31 * w)) + wk)))) + 1) (lst ((μ 11) w) (p1 / 10))) (((4 * ((((31 * w)) + wk)))) + 2) (grM (pyA μ w wk ev p1) w no (p1 - (lst (μ 11 w) (p1 / 10)))))) hR.a12 0 rfl (vp_in_nI (by omega) (by decide)) dX9_pays_128 ?_
  rw [nI_clamp (n := (((4 * ((((31 * w)) + wk)))) + 2)) (by omega)]
  rw [show ((va_up (va_up (va_up (μ 12) (((4 * ((((31 * w)) + wk)))) + 0) p1) (((4 * ((((31 * w)) + wk)))) + 1) (lst ((μ 11) w) (p1 / 10))) (((4 * ((((31 * w)) + wk)))) + 2) (grM (pyA μ w wk ev p1) w no (p1 - (lst (μ 11 w) (p1 / 10))))) (((4 * ((((31 * w)) + wk)))) + 2)) = (grM (pyA μ w wk ev p1) w no (p1 - (lst (μ 11 w) (p1 / 10)))) from va_up_s]
  refine lv_isub hx hb dX9_pays_129 ?_
  refine fw_iast hx hb hE.1.1 hw (g := (va_up (va_up (va_up (μ 12) (((4 * ((((31 * w)) + wk)))) + 0) p1) (((4 * ((((31 * w)) + wk)))) + 1) (lst ((μ 11) w) (p1 / 10))) (((4 * ((((31 * w)) + wk)))) + 2) (grM (pyA μ w wk ev p1) w no (p1 - (lst (μ 11 w) (p1 / 10)))))) hR.a12 0 rfl (vp_in_nI (by omega) (by decide)) dX9_pays_130 (fun H locs hw => ?_)
  rw [nI_clamp (n := (((4 * ((((31 * w)) + wk)))) + 3)) (by omega)] at hw
  obtain ⟨f13, ef13⟩ : ∃ z, z = fw_up f12 (β 12) (.inl (y 0, 992, .inl (va_up (va_up (va_up (va_up (μ 12) (((4 * ((((31 * w)) + wk)))) + 0) p1) (((4 * ((((31 * w)) + wk)))) + 1) (lst ((μ 11) w) (p1 / 10))) (((4 * ((((31 * w)) + wk)))) + 2) (grM (pyA μ w wk ev p1) w no (p1 - (lst (μ 11 w) (p1 / 10))))) (((4 * ((((31 * w)) + wk)))) + 3) ((p1 - (lst ((μ 11) w) (p1 / 10))) - (grM (pyA μ w wk ev p1) w no (p1 - (lst (μ 11 w) (p1 / 10)))))))) := ⟨_, rfl⟩
  have hw : fw_S D A s.heap f13 H locs := by rw [ef13]; exact hw
  have hR : Rm y (up2 (up2 (upA (pyA μ w wk ev p1) 16 (gnM (pyA μ w wk ev p1) w no (p1 - (lst (μ 11 w) (p1 / 10))) (3 * no)).1) 12 (((4 * ((((31 * w)) + wk)))) + 2) (grM (pyA μ w wk ev p1) w no (p1 - (lst (μ 11 w) (p1 / 10))))) 12 (((4 * ((((31 * w)) + wk)))) + 3) ((p1 - (lst ((μ 11) w) (p1 / 10))) - (grM (pyA μ w wk ev p1) w no (p1 - (lst (μ 11 w) (p1 / 10)))))) β f13 := by rw [ef13]; exact hR.s12 (((4 * ((((31 * w)) + wk)))) + 3) ((p1 - (lst ((μ 11) w) (p1 / 10))) - (grM (pyA μ w wk ev p1) w no (p1 - (lst (μ 11 w) (p1 / 10)))))
  exact fw_vret hx hb hr hlocks hw (Nat.le_of_ble_eq_true rfl) (Nat.le_of_ble_eq_true rfl) dX9_pays_131 (hR)

theorem iX9_close_9 : ∀ w ∈ wsX90, w ∈ wsX9_close := by decide +kernel
set_option maxHeartbeats 4000000 in
set_option maxRecDepth 100000 in
/-- the reference: close -/
theorem c_X9_close (l : Launch) (D : va_G) (A : Nat → Prop) (y : Nat → ClassId) (sa : Nat → Nat) (f : fw_F) (β : Nat → Nat) (μ : mS) (nw wk no nt : Nat) (hI : Im μ nw wk no nt) (hR : Rm y μ β f) : Met l yX9_close wsX9_close ({ frames := 3, cells := 0, slots := 0, locals := 74 } : Room) (cPc D A y sa f [.ref (β 0)]) (cQi D A (fun r f1 => (nI wk = 31 ∧ r = 0 ∧ Rm y (up2 μ 0 0 1) β f1) ∨ (¬ nI wk = 31 ∧ r = (csA (up2 μ 0 0 0) wk no nw).2 ∧ Rm y (up2 (csA (up2 μ 0 0 0) wk no nw).1 1 0 (nI (wk + 1))) β f1))) 0 0 A := by
  refine fw_met (by decide) rfl [.ref (β 0)] (Nat.le_of_ble_eq_true rfl) ?_
  intro p e s m args below meth c ls I hin hE hw hl
  obtain ⟨hx, hb, hr, hts, hown, hlocks, hml⟩ := I
  have hown : s.vm.findClass RX9 = some m.cls := hown
  have hl : lv_has ls 4 [(0, .ref (β 0))] := hl
  obtain ⟨hI1, hI2, hI3, hI4, hI5, hI6, hI7, hI8, hI9, hI10, hI11, hI12, hI13⟩ := id hI
  refine lv_aload_n hx hb dX9_close_0 rfl (lv_at hl 0 rfl) ?_
  refine lv_aload_n hx hb dX9_close_1 rfl (lv_at hl 0 rfl) ?_
  refine fw_get hx hb hts hown hE.1.1 hw (ci := 9) (fs := [.int (μ 0 0), .int (μ 1 0), .int (μ 2 0), .ref (β 3), .ref (β 4), .ref (β 5), .ref (β 6), .ref (β 7), .ref (β 8), .ref (β 9), .ref (β 10), .ref (β 11), .ref (β 12), .int (μ 13 0), .ref (β 14), .ref (β 15), .ref (β 16), .ref (β 17), .int (μ 18 0), .ref (β 19), .ref (β 20), .int (μ 21 0), .ref (β 22), .ref (β 23), .ref (β 24)]) (v := .int (μ 1 0)) hR.o iX9_close_9 rfl 1 (by decide) rfl (by decide +kernel) dX9_close_2 ?_
  rw [hI3]
  refine lv_bipush (v := 31) hx hb dX9_close_5 (by decide) ?_
  refine lv_icmp_ne (tgt := 14) hx hb dX9_close_7 (by decide) (fun c_1 => ?_) (fun c_1 => ?_)
  · refine lv_iconst (v := 0) hx hb dX9_close_14 (by decide) ?_
    refine fw_callVi hx hb hml hown hts hE hw [.int 0] [] (c_X9_holds l D A y sa f β μ 0 hR) (cwV 1 hts gX9_close_X9_holds rfl rfl rfl (by decide +kernel) ⟨Nat.le_of_ble_eq_true rfl, Nat.le_of_ble_eq_true rfl⟩) (ci := 9) rfl rfl hR.o rfl hl.1 rfl (Nat.le_of_ble_eq_true rfl) dX9_close_15 ⟨Nat.le_of_ble_eq_true rfl, Nat.le_of_ble_eq_true rfl⟩ (fun r2 f3 H locs hp4 hw => ?_)
    obtain ⟨hp4a, hR⟩ := hp4
    rw [if_pos rfl] at hp4a
    rw [hp4a]
    refine lv_if_ne (tgt := 23) hx hb dX9_close_18 (by decide) (fun _ => ?_) (fun c_5 => absurd c_5 (by decide))
    have hk31 : wk < 31 := by rcases Nat.lt_or_ge wk 31 with q | q; exact q; exact absurd (by rw [show wk = 31 by omega]; rfl) c_1
    refine lv_iconst (v := 0) hx hb dX9_close_23 (by decide) ?_
    refine lv_istore_n (lv' := [(1, .int 0), (0, .ref (β 0))]) hx hb dX9_close_24 rfl hl (by decide) rfl (fun ls hl => ?_)
    refine lv_iconst (v := 0) hx hb dX9_close_25 (by decide) ?_
    refine lv_istore_n (lv' := [(2, .int 0), (1, .int 0), (0, .ref (β 0))]) hx hb dX9_close_26 rfl hl (by decide) rfl (fun ls hl => ?_)
    refine fw_loop 27 4 (fun r : Nat × fw_F => nw - r.1) (fun r => r.1 ≤ nw ∧ Rm y (csA (up2 μ 0 0 0) wk no r.1).1 β r.2) (fun r => r.2) (fun r => [(2, .int (nI r.1)), (1, .int (csA (up2 μ 0 0 0) wk no r.1).2), (0, .ref (β 0))]) (fun r => []) (fun r => 0) (fun r => 0) (fun r H locs ls hP hw hl IH => ?_) (0, f3) H locs ls ⟨by omega, hR⟩ hw (lv_sub hl [0, 1, 2] rfl)
    obtain ⟨i, fa⟩ := r
    obtain ⟨hP1, hR⟩ := hP
    skip
    try dsimp only at hw
    try dsimp only at hl
    try dsimp only at IH
    try dsimp only at ⊢
    dsimp only at hP1 hR
    obtain ⟨ν, eν⟩ : ∃ z, z = (csA (up2 μ 0 0 0) wk no i).1 := ⟨_, rfl⟩
    rw [← eν] at hR
    have hJ : Im ν nw wk no nt := by rw [eν]; exact Im_csA (show Im (up2 μ 0 0 0) nw wk no nt from hI) i
    obtain ⟨hJ1, hJ2, hJ3, hJ4, hJ5, hJ6, hJ7, hJ8, hJ9, hJ10, hJ11, hJ12, hJ13⟩ := id hJ
    refine lv_iload_n hx hb dX9_close_27 rfl (lv_at hl 0 rfl) ?_
    refine lv_aload_n hx hb dX9_close_28 rfl (lv_at hl 2 rfl) ?_
    refine fw_get hx hb hts hown hE.1.1 hw (ci := 9) (fs := [.int (ν 0 0), .int (ν 1 0), .int (ν 2 0), .ref (β 3), .ref (β 4), .ref (β 5), .ref (β 6), .ref (β 7), .ref (β 8), .ref (β 9), .ref (β 10), .ref (β 11), .ref (β 12), .int (ν 13 0), .ref (β 14), .ref (β 15), .ref (β 16), .ref (β 17), .int (ν 18 0), .ref (β 19), .ref (β 20), .int (ν 21 0), .ref (β 22), .ref (β 23), .ref (β 24)]) (v := .int (ν 2 0)) hR.o iX9_close_9 rfl 2 (by decide) rfl (by decide +kernel) dX9_close_29 ?_
    rw [hJ1]
    refine lv_icmp_ge (tgt := 102) hx hb dX9_close_32 (by decide) (fun c_6 => ?_) (fun c_6 => ?_)
    · have hin : i = nw := nI_eqn c_6 hP1 (by omega)
      refine lv_aload_n hx hb dX9_close_102 rfl (lv_at hl 2 rfl) ?_
      refine lv_dup hx hb dX9_close_103 rfl ?_
      refine fw_get hx hb hts hown hE.1.1 hw (ci := 9) (fs := [.int (ν 0 0), .int (ν 1 0), .int (ν 2 0), .ref (β 3), .ref (β 4), .ref (β 5), .ref (β 6), .ref (β 7), .ref (β 8), .ref (β 9), .ref (β 10), .ref (β 11), .ref (β 12), .int (ν 13 0), .ref (β 14), .ref (β 15), .ref (β 16), .ref (β 17), .int (ν 18 0), .ref (β 19), .ref (β 20), .int (ν 21 0), .ref (β 22), .ref (β 23), .ref (β 24)]) (v := .int (ν 1 0)) hR.o iX9_close_9 rfl 1 (by decide) rfl (by decide +kernel) dX9_close_104 ?_
      rw [hJ3]
      refine lv_iconst (v := 1) hx hb dX9_close_107 (by decide) ?_
      refine lv_iadd hx hb dX9_close_108 ?_
      rw [show (((nI wk) + 1) : Int32) = (nI (wk + 1)) from nI_add (wk) (1)]
      refine fw_put hx hb hts hown hE.1.1 hw (ci := 9) (fs := [.int (ν 0 0), .int (ν 1 0), .int (ν 2 0), .ref (β 3), .ref (β 4), .ref (β 5), .ref (β 6), .ref (β 7), .ref (β 8), .ref (β 9), .ref (β 10), .ref (β 11), .ref (β 12), .int (ν 13 0), .ref (β 14), .ref (β 15), .ref (β 16), .ref (β 17), .int (ν 18 0), .ref (β 19), .ref (β 20), .int (ν 21 0), .ref (β 22), .ref (β 23), .ref (β 24)]) (v := .int (nI (wk + 1))) hR.o iX9_close_9 tyX9 tyX9_ok nmX9 rfl 1 (by decide) rfl rfl rfl (Nat.le_of_ble_eq_true rfl) (by decide +kernel) dX9_close_109 (fun H locs hw => ?_)
      obtain ⟨f7, ef7⟩ : ∃ z, z = fw_up fa (β 0) (.inr (9, [.int (ν 0 0), .int (nI (wk + 1)), .int (ν 2 0), .ref (β 3), .ref (β 4), .ref (β 5), .ref (β 6), .ref (β 7), .ref (β 8), .ref (β 9), .ref (β 10), .ref (β 11), .ref (β 12), .int (ν 13 0), .ref (β 14), .ref (β 15), .ref (β 16), .ref (β 17), .int (ν 18 0), .ref (β 19), .ref (β 20), .int (ν 21 0), .ref (β 22), .ref (β 23), .ref (β 24)])) := ⟨_, rfl⟩
      have hw : fw_S D A s.heap f7 H locs := by rw [ef7]; exact hw
      have hR : Rm y (up2 ν 1 0 (nI (wk + 1))) β f7 := by rw [ef7]; exact hR.p1 (nI (wk + 1))
      refine lv_iload_n hx hb dX9_close_112 rfl (lv_at hl 1 rfl) ?_
      exact fw_iret hx hb hr hlocks hw (Nat.le_of_ble_eq_true rfl) (Nat.le_of_ble_eq_true rfl) dX9_close_113 (Or.inr ⟨by assumption, by rw [← hin], by rw [← hin, ← eν]; exact hR⟩)
    · have hin : i < nw := nI_hi c_6 (by omega)
      obtain ⟨ev, hev3, hev⟩ := hJ12 i hin
      have htn : (ν 3 i).toNatClampNeg = ev := by rw [hev, nI_clamp (by omega)]
      refine lv_aload_n hx hb dX9_close_35 rfl (lv_at hl 2 rfl) ?_
      refine lv_iload_n hx hb dX9_close_36 rfl (lv_at hl 0 rfl) ?_
      refine fw_callVi hx hb hml hown hts hE hw [.int (nI i)] [] (c_X9_claimOf l D A y sa fa β ν nw wk no nt hJ i (by omega) hR) (cwV 1 hts gX9_close_X9_claimOf rfl rfl rfl (by decide +kernel) ⟨Nat.le_of_ble_eq_true rfl, Nat.le_of_ble_eq_true rfl⟩) (ci := 9) rfl rfl hR.o rfl hl.1 rfl (Nat.le_of_ble_eq_true rfl) dX9_close_37 ⟨Nat.le_of_ble_eq_true rfl, Nat.le_of_ble_eq_true rfl⟩ (fun r8 f9 H locs hp10 hw => ?_)
      obtain ⟨hp10a, hp10b⟩ := hp10
      rw [hp10b] at hw
      rw [hp10a]
      refine lv_istore_n (lv' := [(3, .int (clM ν i)), (2, .int (nI i)), (1, .int ((csA (up2 μ 0 0 0) wk no i).2)), (0, .ref (β 0))]) hx hb dX9_close_40 rfl hl (by decide) rfl (fun ls hl => ?_)
      refine lv_iload_n hx hb dX9_close_41 rfl (lv_at hl 0 rfl) ?_
      refine lv_if_ge (tgt := 68) hx hb dX9_close_42 (by decide) (fun c_11 => ?_) (fun c_11 => ?_)
      · refine lv_iload_n hx hb dX9_close_68 rfl (lv_at hl 0 rfl) ?_
        refine lv_if_le (tgt := 96) hx hb dX9_close_69 (by decide) (fun c_12 => ?_) (fun c_12 => ?_)
        · refine lv_iinc (v := (nI (i + 1))) (lv' := [(2, .int (nI (i + 1))), (3, .int (clM ν i)), (1, .int ((csA (up2 μ 0 0 0) wk no i).2)), (0, .ref (β 0))]) hx hb dX9_close_96 hl (k := 1) rfl (nI_1 (i)) (by decide) rfl (fun ls hl => ?_)
          refine lv_goto (tgt := 27) hx hb dX9_close_99 (by decide) ?_
          have hst : stM ν wk no i = ν := by unfold stM; rw [if_neg (Int32.not_lt.mpr c_11), if_neg (fun z => absurd c_12 (Int32.not_le.mpr z.1))]
          have hsn : snM ν i = 0 := by unfold snM; rw [if_neg (Int32.not_lt.mpr c_11), if_neg (fun z => absurd c_12 (Int32.not_le.mpr z.1))]
          exact IH (i + 1, fa) _ _ _ (by dsimp only; omega) ⟨by dsimp only; omega, by show Rm y (stM (csA (up2 μ 0 0 0) wk no i).1 wk no i) β _; rw [← eν, hst]; exact hR⟩ hw (by rw [show (csA (up2 μ 0 0 0) wk no (i + 1, fa).1).2 = (csA (up2 μ 0 0 0) wk no i).2 + snM (csA (up2 μ 0 0 0) wk no i).1 i from rfl, ← eν, hsn, Int32.add_zero]; exact lv_sub hl [0, 2, 3] rfl)
        · refine lv_aload_n hx hb dX9_close_72 rfl (lv_at hl 3 rfl) ?_
          refine fw_get hx hb hts hown hE.1.1 hw (ci := 9) (fs := [.int (ν 0 0), .int (ν 1 0), .int (ν 2 0), .ref (β 3), .ref (β 4), .ref (β 5), .ref (β 6), .ref (β 7), .ref (β 8), .ref (β 9), .ref (β 10), .ref (β 11), .ref (β 12), .int (ν 13 0), .ref (β 14), .ref (β 15), .ref (β 16), .ref (β 17), .int (ν 18 0), .ref (β 19), .ref (β 20), .int (ν 21 0), .ref (β 22), .ref (β 23), .ref (β 24)]) (v := .ref (β 19)) hR.o iX9_close_9 rfl 19 (by decide) rfl (by decide +kernel) dX9_close_73 ?_
          refine lv_aload_n hx hb dX9_close_76 rfl (lv_at hl 3 rfl) ?_
          refine fw_get hx hb hts hown hE.1.1 hw (ci := 9) (fs := [.int (ν 0 0), .int (ν 1 0), .int (ν 2 0), .ref (β 3), .ref (β 4), .ref (β 5), .ref (β 6), .ref (β 7), .ref (β 8), .ref (β 9), .ref (β 10), .ref (β 11), .ref (β 12), .int (ν 13 0), .ref (β 14), .ref (β 15), .ref (β 16), .ref (β 17), .int (ν 18 0), .ref (β 19), .ref (β 20), .int (ν 21 0), .ref (β 22), .ref (β 23), .ref (β 24)]) (v := .ref (β 3)) hR.o iX9_close_9 rfl 3 (by decide) rfl (by decide +kernel) dX9_close_77 ?_
          refine lv_iload_n hx hb dX9_close_80 rfl (lv_at hl 1 rfl) ?_
          refine fw_iald hx hb hE.1.1 hw (g := (ν 3)) hR.a3 0 rfl (vp_in_nI (by omega) (by decide)) dX9_close_81 ?_
          rw [nI_clamp (n := i) (by omega)]
          rw [hev]
          refine fw_iald hx hb hE.1.1 hw (g := (ν 19)) hR.a19 0 rfl (vp_in_nI (by omega) (by decide)) dX9_close_82 ?_
          rw [nI_clamp (n := ev) (by omega)]
          refine lv_iload_n hx hb dX9_close_83 rfl (lv_at hl 0 rfl) ?_
          refine lv_icmp_lt (tgt := 96) hx hb dX9_close_84 (by decide) (fun c_13 => ?_) (fun c_13 => ?_)
          · refine lv_iinc (v := (nI (i + 1))) (lv' := [(2, .int (nI (i + 1))), (3, .int (clM ν i)), (1, .int ((csA (up2 μ 0 0 0) wk no i).2)), (0, .ref (β 0))]) hx hb dX9_close_96 hl (k := 1) rfl (nI_1 (i)) (by decide) rfl (fun ls hl => ?_)
            refine lv_goto (tgt := 27) hx hb dX9_close_99 (by decide) ?_
            have hst : stM ν wk no i = ν := by unfold stM; rw [if_neg (Int32.not_lt.mpr c_11), if_neg (fun z => absurd c_13 (Int32.not_lt.mpr (by rw [← htn]; exact z.2)))]
            have hsn : snM ν i = 0 := by unfold snM; rw [if_neg (Int32.not_lt.mpr c_11), if_neg (fun z => absurd c_13 (Int32.not_lt.mpr (by rw [← htn]; exact z.2)))]
            exact IH (i + 1, fa) _ _ _ (by dsimp only; omega) ⟨by dsimp only; omega, by show Rm y (stM (csA (up2 μ 0 0 0) wk no i).1 wk no i) β _; rw [← eν, hst]; exact hR⟩ hw (by rw [show (csA (up2 μ 0 0 0) wk no (i + 1, fa).1).2 = (csA (up2 μ 0 0 0) wk no i).2 + snM (csA (up2 μ 0 0 0) wk no i).1 i from rfl, ← eν, hsn, Int32.add_zero]; exact lv_sub hl [0, 2, 3] rfl)
          · refine lv_aload_n hx hb dX9_close_87 rfl (lv_at hl 3 rfl) ?_
            refine lv_iload_n hx hb dX9_close_88 rfl (lv_at hl 1 rfl) ?_
            refine lv_iload_n hx hb dX9_close_89 rfl (lv_at hl 0 rfl) ?_
            refine fw_callVv hx hb hml hown hts hE hw [.int (nI i), .int (clM ν i)] [] (c_X9_pays l D A y sa fa β ν nw wk no nt hJ i ev (clM ν i) (by omega) hev3 hev (by omega) hR) (cwV 2 hts gX9_close_X9_pays rfl rfl rfl (by decide +kernel) ⟨Nat.le_of_ble_eq_true rfl, Nat.le_of_ble_eq_true rfl⟩) (ci := 9) rfl rfl hR.o rfl hl.1 rfl (Nat.le_of_ble_eq_true rfl) dX9_close_90 ⟨Nat.le_of_ble_eq_true rfl, Nat.le_of_ble_eq_true rfl⟩ (fun f15 H locs hp16 hw => ?_)
            have hR := hp16
            refine lv_iinc (v := (((csA (up2 μ 0 0 0) wk no i).2) + 1)) (lv' := [(1, .int (((csA (up2 μ 0 0 0) wk no i).2) + 1)), (3, .int (clM ν i)), (2, .int (nI i)), (0, .ref (β 0))]) hx hb dX9_close_93 hl (k := 2) rfl rfl (by decide) rfl (fun ls hl => ?_)
            refine lv_iinc (v := (nI (i + 1))) (lv' := [(2, .int (nI (i + 1))), (1, .int (((csA (up2 μ 0 0 0) wk no i).2) + 1)), (3, .int (clM ν i)), (0, .ref (β 0))]) hx hb dX9_close_96 hl (k := 2) rfl (nI_1 (i)) (by decide) rfl (fun ls hl => ?_)
            refine lv_goto (tgt := 27) hx hb dX9_close_99 (by decide) ?_
            have hst : stM ν wk no i = (pyM ν i wk no ev (clM ν i)) := by unfold stM; rw [if_neg (Int32.not_lt.mpr c_11), if_pos ⟨Int32.not_le.mp c_12, by rw [htn]; exact Int32.not_lt.mp c_13⟩]; rw [htn]
            have hsn : snM ν i = 1 := by unfold snM; rw [if_neg (Int32.not_lt.mpr c_11), if_pos ⟨Int32.not_le.mp c_12, by rw [htn]; exact Int32.not_lt.mp c_13⟩]
            exact IH (i + 1, f15) _ _ _ (by dsimp only; omega) ⟨by dsimp only; omega, by show Rm y (stM (csA (up2 μ 0 0 0) wk no i).1 wk no i) β _; rw [← eν, hst]; exact hR⟩ hw (by rw [show (csA (up2 μ 0 0 0) wk no (i + 1, f15).1).2 = (csA (up2 μ 0 0 0) wk no i).2 + snM (csA (up2 μ 0 0 0) wk no i).1 i from rfl, ← eν, hsn]; exact lv_sub hl [0, 1, 3] rfl)
      · refine lv_aload_n hx hb dX9_close_45 rfl (lv_at hl 3 rfl) ?_
        refine fw_get hx hb hts hown hE.1.1 hw (ci := 9) (fs := [.int (ν 0 0), .int (ν 1 0), .int (ν 2 0), .ref (β 3), .ref (β 4), .ref (β 5), .ref (β 6), .ref (β 7), .ref (β 8), .ref (β 9), .ref (β 10), .ref (β 11), .ref (β 12), .int (ν 13 0), .ref (β 14), .ref (β 15), .ref (β 16), .ref (β 17), .int (ν 18 0), .ref (β 19), .ref (β 20), .int (ν 21 0), .ref (β 22), .ref (β 23), .ref (β 24)]) (v := .ref (β 11)) hR.o iX9_close_9 rfl 11 (by decide) rfl (by decide +kernel) dX9_close_46 ?_
        refine lv_iload_n hx hb dX9_close_49 rfl (lv_at hl 1 rfl) ?_
        refine lv_dup2_11 hx hb dX9_close_50 rfl rfl ?_
        refine fw_iald hx hb hE.1.1 hw (g := (ν 11)) hR.a11 0 rfl (vp_in_nI (by omega) (by decide)) dX9_close_51 ?_
        rw [nI_clamp (n := i) (by omega)]
        refine lv_iload_n hx hb dX9_close_52 rfl (lv_at hl 0 rfl) ?_
        refine lv_isub hx hb dX9_close_53 ?_
        refine fw_iast hx hb hE.1.1 hw (g := (ν 11)) hR.a11 0 rfl (vp_in_nI (by omega) (by decide)) dX9_close_54 (fun H locs hw => ?_)
        rw [nI_clamp (n := i) (by omega)] at hw
        obtain ⟨f17, ef17⟩ : ∃ z, z = fw_up fa (β 11) (.inl (y 0, 8, .inl (va_up (ν 11) i (((ν 11) i) - (clM ν i))))) := ⟨_, rfl⟩
        have hw : fw_S D A s.heap f17 H locs := by rw [ef17]; exact hw
        have hR : Rm y (up2 ν 11 i (((ν 11) i) - (clM ν i))) β f17 := by rw [ef17]; exact hR.s11 i (((ν 11) i) - (clM ν i))
        refine lv_aload_n hx hb dX9_close_55 rfl (lv_at hl 3 rfl) ?_
        refine fw_get hx hb hts hown hE.1.1 hw (ci := 9) (fs := [.int (ν 0 0), .int (ν 1 0), .int (ν 2 0), .ref (β 3), .ref (β 4), .ref (β 5), .ref (β 6), .ref (β 7), .ref (β 8), .ref (β 9), .ref (β 10), .ref (β 11), .ref (β 12), .int (ν 13 0), .ref (β 14), .ref (β 15), .ref (β 16), .ref (β 17), .int (ν 18 0), .ref (β 19), .ref (β 20), .int (ν 21 0), .ref (β 22), .ref (β 23), .ref (β 24)]) (v := .ref (β 10)) hR.o iX9_close_9 rfl 10 (by decide) rfl (by decide +kernel) dX9_close_56 ?_
        refine lv_iload_n hx hb dX9_close_59 rfl (lv_at hl 1 rfl) ?_
        refine lv_dup2_11 hx hb dX9_close_60 rfl rfl ?_
        refine fw_iald hx hb hE.1.1 hw (g := (ν 10)) hR.a10 0 rfl (vp_in_nI (by omega) (by decide)) dX9_close_61 ?_
        rw [nI_clamp (n := i) (by omega)]
        refine lv_iload_n hx hb dX9_close_62 rfl (lv_at hl 0 rfl) ?_
        refine lv_iadd hx hb dX9_close_63 ?_
        refine fw_iast hx hb hE.1.1 hw (g := (ν 10)) hR.a10 0 rfl (vp_in_nI (by omega) (by decide)) dX9_close_64 (fun H locs hw => ?_)
        rw [nI_clamp (n := i) (by omega)] at hw
        obtain ⟨f18, ef18⟩ : ∃ z, z = fw_up f17 (β 10) (.inl (y 0, 8, .inl (va_up (ν 10) i (((ν 10) i) + (clM ν i))))) := ⟨_, rfl⟩
        have hw : fw_S D A s.heap f18 H locs := by rw [ef18]; exact hw
        have hR : Rm y (up2 (up2 ν 11 i (((ν 11) i) - (clM ν i))) 10 i (((ν 10) i) + (clM ν i))) β f18 := by rw [ef18]; exact hR.s10 i (((ν 10) i) + (clM ν i))
        refine lv_goto (tgt := 96) hx hb dX9_close_65 (by decide) ?_
        refine lv_iinc (v := (nI (i + 1))) (lv' := [(2, .int (nI (i + 1))), (3, .int (clM ν i)), (1, .int ((csA (up2 μ 0 0 0) wk no i).2)), (0, .ref (β 0))]) hx hb dX9_close_96 hl (k := 1) rfl (nI_1 (i)) (by decide) rfl (fun ls hl => ?_)
        refine lv_goto (tgt := 27) hx hb dX9_close_99 (by decide) ?_
        have hst : stM ν wk no i = (up2 (up2 ν 11 i (((ν 11) i) - (clM ν i))) 10 i (((ν 10) i) + (clM ν i))) := by unfold stM; rw [if_pos (Int32.not_le.mp c_11)]
        have hsn : snM ν i = 0 := by unfold snM; rw [if_pos (Int32.not_le.mp c_11)]
        exact IH (i + 1, f18) _ _ _ (by dsimp only; omega) ⟨by dsimp only; omega, by show Rm y (stM (csA (up2 μ 0 0 0) wk no i).1 wk no i) β _; rw [← eν, hst]; exact hR⟩ hw (by rw [show (csA (up2 μ 0 0 0) wk no (i + 1, f18).1).2 = (csA (up2 μ 0 0 0) wk no i).2 + snM (csA (up2 μ 0 0 0) wk no i).1 i from rfl, ← eν, hsn, Int32.add_zero]; exact lv_sub hl [0, 2, 3] rfl)
  · refine lv_iconst (v := 1) hx hb dX9_close_10 (by decide) ?_
    refine lv_goto (tgt := 15) hx hb dX9_close_11 (by decide) ?_
    refine fw_callVi hx hb hml hown hts hE hw [.int 1] [] (c_X9_holds l D A y sa f β μ 1 hR) (cwV 1 hts gX9_close_X9_holds rfl rfl rfl (by decide +kernel) ⟨Nat.le_of_ble_eq_true rfl, Nat.le_of_ble_eq_true rfl⟩) (ci := 9) rfl rfl hR.o rfl hl.1 rfl (Nat.le_of_ble_eq_true rfl) dX9_close_15 ⟨Nat.le_of_ble_eq_true rfl, Nat.le_of_ble_eq_true rfl⟩ (fun r19 f20 H locs hp21 hw => ?_)
    obtain ⟨hp21a, hR⟩ := hp21
    rw [if_neg (by decide)] at hp21a
    rw [hp21a]
    refine lv_if_ne (tgt := 23) hx hb dX9_close_18 (by decide) (fun c_22 => absurd c_22 (by decide)) (fun _ => ?_)
    refine lv_iconst (v := 0) hx hb dX9_close_21 (by decide) ?_
    exact fw_iret hx hb hr hlocks hw (Nat.le_of_ble_eq_true rfl) (Nat.le_of_ble_eq_true rfl) dX9_close_22 (Or.inl ⟨by assumption, rfl, hR⟩)
