def tkC (κ : cS) (w : Nat) (g : Int32) : Int32 := if g / 10 < κ 4 w 3 then g / 10 else κ 4 w 3
/-- pay, up to the garnishing -/
def pyK (κ : cS) (w ev : Nat) (g : Int32) : cS := upF (upF κ 1 ev (va_up (va_up (κ 1 ev) 0 (κ 1 ev 0 - g + tkC κ w g)) 1 (κ 1 ev 1))) 4 w (va_up (va_up (κ 4 w) 2 (κ 4 w 2 + g)) 3 (κ 4 w 3 - tkC κ w g))
def pgC (κ : cS) (no w ev : Nat) (g : Int32) : cS × Int32 := gaC no w (g - tkC κ w g - κ 0 0 0) (pyK κ w ev g, 0) 3
def payK (κ : cS) (no wk w ev : Nat) (g : Int32) : cS := slK (pgC κ no w ev g).1 w wk g (tkC κ w g) (pgC κ no w ev g).2 (g - tkC κ w g - (pgC κ no w ev g).2)
theorem pyK_1 {κ : cS} {w ev : Nat} {g : Int32} : pyK κ w ev g 1 ev = va_up (va_up (κ 1 ev) 0 (κ 1 ev 0 - g + tkC κ w g)) 1 (κ 1 ev 1) := by unfold pyK; rw [upF_k (by decide), upF_s]
theorem pyK_4 {κ : cS} {w ev : Nat} {g : Int32} : pyK κ w ev g 4 w = va_up (va_up (κ 4 w) 2 (κ 4 w 2 + g)) 3 (κ 4 w 3 - tkC κ w g) := by unfold pyK; rw [upF_s]
theorem pyK_i {κ : cS} {w ev i : Nat} {g : Int32} (h : i ≠ w) : pyK κ w ev g 4 i = κ 4 i := by unfold pyK; rw [upF_i h, upF_k (by decide)]
theorem pyK_k {κ : cS} {w ev k : Nat} {g : Int32} (h1 : k ≠ 1) (h4 : k ≠ 4) : pyK κ w ev g k = κ k := funext fun b => by unfold pyK; rw [upF_k h4, upF_k h1]
theorem Ic.pyK {nw no nt wk w ev : Nat} {κ : cS} {g : Int32} (h : Ic nw no nt wk κ) : Ic nw no nt wk (pyK κ w ev g) := by
  refine h.of (fun i => ?_) (fun i => ?_) (pyK_k (by decide) (by decide)) (pyK_k (by decide) (by decide)) (fun o => by rw [pyK_k (by decide) (by decide)]) (pyK_k (by decide) (by decide))
  · by_cases z : i = w
    · subst z
      rw [pyK_4, va_up_n (by decide), va_up_n (by decide)]
    · rw [pyK_i z]
  · by_cases z : i = w
    · subst z
      rw [pyK_4, va_up_n (by decide), va_up_n (by decide)]
    · rw [pyK_i z]
theorem Rc.pyK {y : Nat → ClassId} {nw no nt wk : Nat} {κ : cS} {α : Nat → Nat → Nat → Nat} {f : fw_F} (h : Rc y nw no nt wk κ α f) {w ev : Nat} (hw : w < nw) (hev : ev < 3) (he : κ 4 w 0 = nI ev) (g : Int32) :
    Rc y nw no nt wk (pyK κ w ev g) α (fw_up (fw_up f (α 1 ev 0) (.inr (1, [.int (κ 1 ev 0 - g + tkC κ w g), .int (κ 1 ev 1)]))) (α 3 w 0) (.inr (7, [.ref (α 1 ev 0), .ref (α 3 w 1), .int (κ 4 w 1), .int (κ 4 w 2 + g), .int (κ 4 w 3 - tkC κ w g), .int (κ 4 w 4), .ref (α 3 w 4), .ref (α 3 w 5)]))) := by
  have e4 : ∀ P, upF κ 1 ev P 4 w = κ 4 w := fun P => upF_k (by decide)
  have z := (h.setP hev (κ 1 ev 0 - g + tkC κ w g) (κ 1 ev 1)).setW hw (va_up (va_up (κ 4 w) 2 (κ 4 w 2 + g)) 3 (κ 4 w 3 - tkC κ w g)) (by rw [e4, va_up_n (by decide), va_up_n (by decide)])
  rw [e4, he, nI_clamp (n := ev) (by omega)] at z
  have a1 : va_up (va_up (κ 4 w) 2 (κ 4 w 2 + g)) 3 (κ 4 w 3 - tkC κ w g) 1 = κ 4 w 1 := by rw [va_up_n (by decide), va_up_n (by decide)]
  have a2 : va_up (va_up (κ 4 w) 2 (κ 4 w 2 + g)) 3 (κ 4 w 3 - tkC κ w g) 2 = κ 4 w 2 + g := by rw [va_up_n (by decide), va_up_s]
  have a3 : va_up (va_up (κ 4 w) 2 (κ 4 w 2 + g)) 3 (κ 4 w 3 - tkC κ w g) 3 = κ 4 w 3 - tkC κ w g := va_up_s
  have a4 : va_up (va_up (κ 4 w) 2 (κ 4 w 2 + g)) 3 (κ 4 w 3 - tkC κ w g) 4 = κ 4 w 4 := by rw [va_up_n (by decide), va_up_n (by decide)]
  rw [a1, a2, a3, a4] at z
  exact z
theorem iX8_pay_1 : ∀ w ∈ wsX10, w ∈ wsX8_pay := by decide +kernel
theorem iX8_pay_5 : ∀ w ∈ wsX50, w ∈ wsX8_pay := by decide +kernel
theorem iX8_pay_7 : ∀ w ∈ wsX70, w ∈ wsX8_pay := by decide +kernel
theorem iX8_pay_8 : ∀ w ∈ wsX80, w ∈ wsX8_pay := by decide +kernel
set_option maxHeartbeats 4000000 in
set_option maxRecDepth 100000 in
/-- pay -/
theorem c_X8_pay (l : Launch) (D : va_G) (A : Nat → Prop) (y : Nat → ClassId) (sa : Nat → Nat) (f : fw_F) (α : Nat → Nat → Nat → Nat) (κ : cS) (nw no nt wk : Nat) (w ev : Nat) (p2 : Int32) (hwn : w < nw) (hev : ev < 3) (he : κ 4 w 0 = nI ev) (hk31 : wk < 31) (hno10 : ¬ κ 10 w wk = 1) (hI : Ic nw no nt wk κ) (hR : Rc y nw no nt wk κ α f) : Met l yX8_pay wsX8_pay ({ frames := 3, cells := 1, slots := 4, locals := 76 } : Room) (cPc D A y sa f [.ref (α 0 0 0), .ref (α 3 w 0), .int p2]) (cQv D A (fun f1 => ∃ α2, (∀ k i j, k < 4 → α2 k i j = α k i j) ∧ Rc y nw no nt wk (payK κ no wk w ev p2) α2 f1)) 1 4 A := by
  refine fw_met (by decide) rfl [.ref (α 0 0 0), .ref (α 3 w 0), .int p2] (Nat.le_of_ble_eq_true rfl) ?_
  intro p e s m args below meth c ls I hin hE hw hl
  obtain ⟨hx, hb, hr, hts, hown, hlocks, hml⟩ := I
  have hown : s.vm.findClass RX8 = some m.cls := hown
  have hl : lv_has ls 6 [(0, .ref (α 0 0 0)), (1, .ref (α 3 w 0)), (2, .int p2)] := hl
  obtain ⟨hI1, hI2, hI3, hI4, hI5, hI6, hI7, hI8, hI9, hI10⟩ := id hI
  have hWo : f (α 3 w 0) = some (.inr (7, [.ref (α 1 ev 0), .ref (α 3 w 1), .int (κ 4 w 1), .int (κ 4 w 2), .int (κ 4 w 3), .int (κ 4 w 4), .ref (α 3 w 4), .ref (α 3 w 5)])) := by have z := hR.w0 hwn; rw [he, nI_clamp (n := ev) (by omega)] at z; exact z
  refine lv_aload_n hx hb dX8_pay_0 rfl (lv_at hl 1 rfl) ?_
  refine fw_get hx hb hts hown hE.1.1 hw (ci := 7) (fs := [.ref (α 1 ev 0), .ref (α 3 w 1), .int (κ 4 w 1), .int (κ 4 w 2), .int (κ 4 w 3), .int (κ 4 w 4), .ref (α 3 w 4), .ref (α 3 w 5)]) (v := .ref (α 1 ev 0)) hWo iX8_pay_7 rfl 0 (by decide) rfl (by decide +kernel) dX8_pay_1 ?_
  refine lv_dup hx hb dX8_pay_4 rfl ?_
  refine fw_get hx hb hts hown hE.1.1 hw (ci := 1) (fs := [.int (κ 1 ev 0), .int (κ 1 ev 1)]) (v := .int (κ 1 ev 0)) (hR.p hev) iX8_pay_1 rfl 0 (by decide) rfl (by decide +kernel) dX8_pay_5 ?_
  refine lv_iload_n hx hb dX8_pay_8 rfl (lv_at hl 2 rfl) ?_
  refine lv_isub hx hb dX8_pay_9 ?_
  refine fw_put hx hb hts hown hE.1.1 hw (ci := 1) (fs := [.int (κ 1 ev 0), .int (κ 1 ev 1)]) (v := .int ((κ 1 ev 0) - p2)) (hR.p hev) iX8_pay_1 tyX1 tyX1_ok nmX1 rfl 0 (by decide) rfl rfl rfl (Nat.le_of_ble_eq_true rfl) (by decide +kernel) dX8_pay_10 (fun H locs hw => ?_)
  obtain ⟨f1, ef1⟩ : ∃ z, z = fw_up f (α 1 ev 0) (.inr (1, [.int ((κ 1 ev 0) - p2), .int (κ 1 ev 1)])) := ⟨_, rfl⟩
  have hw : fw_S D A s.heap f1 H locs := by rw [ef1]; exact hw
  have h2 : f1 (α 3 w 0) = some (.inr (7, [.ref (α 1 ev 0), .ref (α 3 w 1), .int (κ 4 w 1), .int (κ 4 w 2), .int (κ 4 w 3), .int (κ 4 w 4), .ref (α 3 w 4), .ref (α 3 w 5)])) := by rw [ef1]; exact (fw_up_n (fw_ne2 hWo (hR.p hev) (by simp))).trans hWo
  have h3 : f1 (α 0 0 0) = some (.inr (8, [.ref (α 0 0 1), .ref (α 0 0 2), .ref (α 0 0 3), .ref (α 0 0 4), .ref (α 0 0 5), .int (nI nw), .int (nI no), .int (nI nt), .int (κ 0 0 0), .int (nI wk)])) := by rw [ef1]; exact (fw_up_n (fw_ne2 hR.x (hR.p hev) (by simp))).trans hR.x
  have h4 : f1 (α 1 ev 0) = some (.inr (1, [.int ((κ 1 ev 0) - p2), .int (κ 1 ev 1)])) := by rw [ef1]; exact fw_up_s
  refine lv_aload_n hx hb dX8_pay_13 rfl (lv_at hl 1 rfl) ?_
  refine lv_dup hx hb dX8_pay_14 rfl ?_
  refine fw_get hx hb hts hown hE.1.1 hw (ci := 7) (fs := [.ref (α 1 ev 0), .ref (α 3 w 1), .int (κ 4 w 1), .int (κ 4 w 2), .int (κ 4 w 3), .int (κ 4 w 4), .ref (α 3 w 4), .ref (α 3 w 5)]) (v := .int (κ 4 w 2)) h2 iX8_pay_7 rfl 3 (by decide) rfl (by decide +kernel) dX8_pay_15 ?_
  refine lv_iload_n hx hb dX8_pay_18 rfl (lv_at hl 2 rfl) ?_
  refine lv_iadd hx hb dX8_pay_19 ?_
  refine fw_put hx hb hts hown hE.1.1 hw (ci := 7) (fs := [.ref (α 1 ev 0), .ref (α 3 w 1), .int (κ 4 w 1), .int (κ 4 w 2), .int (κ 4 w 3), .int (κ 4 w 4), .ref (α 3 w 4), .ref (α 3 w 5)]) (v := .int ((κ 4 w 2) + p2)) h2 iX8_pay_7 tyX7 tyX7_ok nmX7 rfl 3 (by decide) rfl rfl rfl (Nat.le_of_ble_eq_true rfl) (by decide +kernel) dX8_pay_20 (fun H locs hw => ?_)
  obtain ⟨f5, ef5⟩ : ∃ z, z = fw_up f1 (α 3 w 0) (.inr (7, [.ref (α 1 ev 0), .ref (α 3 w 1), .int (κ 4 w 1), .int ((κ 4 w 2) + p2), .int (κ 4 w 3), .int (κ 4 w 4), .ref (α 3 w 4), .ref (α 3 w 5)])) := ⟨_, rfl⟩
  have hw : fw_S D A s.heap f5 H locs := by rw [ef5]; exact hw
  have h6 : f5 (α 0 0 0) = some (.inr (8, [.ref (α 0 0 1), .ref (α 0 0 2), .ref (α 0 0 3), .ref (α 0 0 4), .ref (α 0 0 5), .int (nI nw), .int (nI no), .int (nI nt), .int (κ 0 0 0), .int (nI wk)])) := by rw [ef5]; exact (fw_up_n (fw_ne2 h3 h2 (by simp))).trans h3
  have h7 : f5 (α 1 ev 0) = some (.inr (1, [.int ((κ 1 ev 0) - p2), .int (κ 1 ev 1)])) := by rw [ef5]; exact (fw_up_n (fw_ne2 h4 h2 (by simp))).trans h4
  have h8 : f5 (α 3 w 0) = some (.inr (7, [.ref (α 1 ev 0), .ref (α 3 w 1), .int (κ 4 w 1), .int ((κ 4 w 2) + p2), .int (κ 4 w 3), .int (κ 4 w 4), .ref (α 3 w 4), .ref (α 3 w 5)])) := by rw [ef5]; exact fw_up_s
  refine lv_aload_n hx hb dX8_pay_23 rfl (lv_at hl 1 rfl) ?_
  refine fw_get hx hb hts hown hE.1.1 hw (ci := 7) (fs := [.ref (α 1 ev 0), .ref (α 3 w 1), .int (κ 4 w 1), .int ((κ 4 w 2) + p2), .int (κ 4 w 3), .int (κ 4 w 4), .ref (α 3 w 4), .ref (α 3 w 5)]) (v := .int (κ 4 w 3)) h8 iX8_pay_7 rfl 4 (by decide) rfl (by decide +kernel) dX8_pay_24 ?_
  refine lv_iload_n hx hb dX8_pay_27 rfl (lv_at hl 2 rfl) ?_
  refine lv_bipush (v := 10) hx hb dX8_pay_28 (by decide) ?_
  refine lv_idiv hx hb dX8_pay_30 (by decide) ?_
  refine va_mmin hx hb (hml.trans hl.1.symm) (own := RX8) hown (hts (.methodLink RX8 234 Lib.Math.min.name) (by decide +kernel)) (hts (.static Lib.Math.min.name) (by decide +kernel)) (hts (.initialized "java/lang/Math") (by decide +kernel)) (hts (.code Lib.Math.min.name Lib.Math.min.code 2 (some .int)) (by decide +kernel)) (Nat.le_of_ble_eq_true rfl) (Nat.le_of_ble_eq_true rfl) (Nat.le_of_ble_eq_true rfl) (Nat.le_of_ble_eq_true rfl) dX8_pay_31 ?_
  rw [show (if (p2 / 10) < (κ 4 w 3) then (p2 / 10) else (κ 4 w 3)) = tkC κ w p2 from rfl]
  refine lv_istore_n (lv' := [(3, .int (tkC κ w p2)), (0, .ref (α 0 0 0)), (1, .ref (α 3 w 0)), (2, .int p2)]) hx hb dX8_pay_34 rfl hl (by decide) rfl (fun ls hl => ?_)
  refine lv_aload_n hx hb dX8_pay_35 rfl (lv_at hl 2 rfl) ?_
  refine lv_dup hx hb dX8_pay_36 rfl ?_
  refine fw_get hx hb hts hown hE.1.1 hw (ci := 7) (fs := [.ref (α 1 ev 0), .ref (α 3 w 1), .int (κ 4 w 1), .int ((κ 4 w 2) + p2), .int (κ 4 w 3), .int (κ 4 w 4), .ref (α 3 w 4), .ref (α 3 w 5)]) (v := .int (κ 4 w 3)) h8 iX8_pay_7 rfl 4 (by decide) rfl (by decide +kernel) dX8_pay_37 ?_
  refine lv_iload_n hx hb dX8_pay_40 rfl (lv_at hl 0 rfl) ?_
  refine lv_isub hx hb dX8_pay_41 ?_
  refine fw_put hx hb hts hown hE.1.1 hw (ci := 7) (fs := [.ref (α 1 ev 0), .ref (α 3 w 1), .int (κ 4 w 1), .int ((κ 4 w 2) + p2), .int (κ 4 w 3), .int (κ 4 w 4), .ref (α 3 w 4), .ref (α 3 w 5)]) (v := .int ((κ 4 w 3) - (tkC κ w p2))) h8 iX8_pay_7 tyX7 tyX7_ok nmX7 rfl 4 (by decide) rfl rfl rfl (Nat.le_of_ble_eq_true rfl) (by decide +kernel) dX8_pay_42 (fun H locs hw => ?_)
  obtain ⟨f9, ef9⟩ : ∃ z, z = fw_up f5 (α 3 w 0) (.inr (7, [.ref (α 1 ev 0), .ref (α 3 w 1), .int (κ 4 w 1), .int ((κ 4 w 2) + p2), .int ((κ 4 w 3) - (tkC κ w p2)), .int (κ 4 w 4), .ref (α 3 w 4), .ref (α 3 w 5)])) := ⟨_, rfl⟩
  have hw : fw_S D A s.heap f9 H locs := by rw [ef9]; exact hw
  have h10 : f9 (α 0 0 0) = some (.inr (8, [.ref (α 0 0 1), .ref (α 0 0 2), .ref (α 0 0 3), .ref (α 0 0 4), .ref (α 0 0 5), .int (nI nw), .int (nI no), .int (nI nt), .int (κ 0 0 0), .int (nI wk)])) := by rw [ef9]; exact (fw_up_n (fw_ne2 h6 h8 (by simp))).trans h6
  have h11 : f9 (α 1 ev 0) = some (.inr (1, [.int ((κ 1 ev 0) - p2), .int (κ 1 ev 1)])) := by rw [ef9]; exact (fw_up_n (fw_ne2 h7 h8 (by simp))).trans h7
  have h12 : f9 (α 3 w 0) = some (.inr (7, [.ref (α 1 ev 0), .ref (α 3 w 1), .int (κ 4 w 1), .int ((κ 4 w 2) + p2), .int ((κ 4 w 3) - (tkC κ w p2)), .int (κ 4 w 4), .ref (α 3 w 4), .ref (α 3 w 5)])) := by rw [ef9]; exact fw_up_s
  refine lv_aload_n hx hb dX8_pay_45 rfl (lv_at hl 2 rfl) ?_
  refine fw_get hx hb hts hown hE.1.1 hw (ci := 7) (fs := [.ref (α 1 ev 0), .ref (α 3 w 1), .int (κ 4 w 1), .int ((κ 4 w 2) + p2), .int ((κ 4 w 3) - (tkC κ w p2)), .int (κ 4 w 4), .ref (α 3 w 4), .ref (α 3 w 5)]) (v := .ref (α 1 ev 0)) h12 iX8_pay_7 rfl 0 (by decide) rfl (by decide +kernel) dX8_pay_46 ?_
  refine lv_dup hx hb dX8_pay_49 rfl ?_
  refine fw_get hx hb hts hown hE.1.1 hw (ci := 1) (fs := [.int ((κ 1 ev 0) - p2), .int (κ 1 ev 1)]) (v := .int ((κ 1 ev 0) - p2)) h11 iX8_pay_1 rfl 0 (by decide) rfl (by decide +kernel) dX8_pay_50 ?_
  refine lv_iload_n hx hb dX8_pay_53 rfl (lv_at hl 0 rfl) ?_
  refine lv_iadd hx hb dX8_pay_54 ?_
  refine fw_put hx hb hts hown hE.1.1 hw (ci := 1) (fs := [.int ((κ 1 ev 0) - p2), .int (κ 1 ev 1)]) (v := .int (((κ 1 ev 0) - p2) + (tkC κ w p2))) h11 iX8_pay_1 tyX1 tyX1_ok nmX1 rfl 0 (by decide) rfl rfl rfl (Nat.le_of_ble_eq_true rfl) (by decide +kernel) dX8_pay_55 (fun H locs hw => ?_)
  obtain ⟨f13, ef13⟩ : ∃ z, z = fw_up f9 (α 1 ev 0) (.inr (1, [.int (((κ 1 ev 0) - p2) + (tkC κ w p2)), .int (κ 1 ev 1)])) := ⟨_, rfl⟩
  have hw : fw_S D A s.heap f13 H locs := by rw [ef13]; exact hw
  have h14 : f13 (α 0 0 0) = some (.inr (8, [.ref (α 0 0 1), .ref (α 0 0 2), .ref (α 0 0 3), .ref (α 0 0 4), .ref (α 0 0 5), .int (nI nw), .int (nI no), .int (nI nt), .int (κ 0 0 0), .int (nI wk)])) := by rw [ef13]; exact (fw_up_n (fw_ne2 h10 h11 (by simp))).trans h10
  have h15 : f13 (α 3 w 0) = some (.inr (7, [.ref (α 1 ev 0), .ref (α 3 w 1), .int (κ 4 w 1), .int ((κ 4 w 2) + p2), .int ((κ 4 w 3) - (tkC κ w p2)), .int (κ 4 w 4), .ref (α 3 w 4), .ref (α 3 w 5)])) := by rw [ef13]; exact (fw_up_n (fw_ne2 h12 h11 (by simp))).trans h12
  have h16 : f13 (α 1 ev 0) = some (.inr (1, [.int (((κ 1 ev 0) - p2) + (tkC κ w p2)), .int (κ 1 ev 1)])) := by rw [ef13]; exact fw_up_s
  refine lv_iload_n hx hb dX8_pay_58 rfl (lv_at hl 3 rfl) ?_
  refine lv_iload_n hx hb dX8_pay_59 rfl (lv_at hl 0 rfl) ?_
  refine lv_isub hx hb dX8_pay_60 ?_
  refine lv_istore (lv' := [(4, .int (p2 - (tkC κ w p2))), (3, .int (tkC κ w p2)), (0, .ref (α 0 0 0)), (1, .ref (α 3 w 0)), (2, .int p2)]) hx hb dX8_pay_61 hl (by decide) rfl (fun ls hl => ?_)
  refine lv_aload_n hx hb dX8_pay_63 rfl (lv_at hl 2 rfl) ?_
  refine lv_aload_n hx hb dX8_pay_64 rfl (lv_at hl 3 rfl) ?_
  refine lv_iload hx hb dX8_pay_65 (lv_at hl 0 rfl) ?_
  refine lv_aload_n hx hb dX8_pay_67 rfl (lv_at hl 2 rfl) ?_
  refine fw_get hx hb hts hown hE.1.1 hw (ci := 8) (fs := [.ref (α 0 0 1), .ref (α 0 0 2), .ref (α 0 0 3), .ref (α 0 0 4), .ref (α 0 0 5), .int (nI nw), .int (nI no), .int (nI nt), .int (κ 0 0 0), .int (nI wk)]) (v := .int (κ 0 0 0)) h14 iX8_pay_8 rfl 8 (by decide) rfl (by decide +kernel) dX8_pay_68 ?_
  refine lv_isub hx hb dX8_pay_71 ?_
  have hR1 : Rc y nw no nt wk (pyK κ w ev p2) α f13 := by rw [ef13, ef9, ef5, ef1, fw_up_up (a := α 3 w 0), fw_up_c (a := α 3 w 0) (b := α 1 ev 0) (fw_ne2 hWo (hR.p hev) (by simp)), fw_up_up (a := α 1 ev 0)]; exact hR.pyK hwn hev he p2
  refine fw_callVi hx hb hml hown hts hE hw [.ref (α 3 w 0), .int ((p2 - (tkC κ w p2)) - (κ 0 0 0))] [] (c_X8_garnish l D A y sa f13 α (pyK κ w ev p2) nw no nt wk w ((p2 - (tkC κ w p2)) - (κ 0 0 0)) hwn hI.pyK hR1) (cwV 2 hts gX8_pay_X8_garnish rfl rfl rfl (by decide +kernel) ⟨Nat.le_of_ble_eq_true rfl, Nat.le_of_ble_eq_true rfl⟩) (ci := 8) rfl rfl h14 rfl hl.1 rfl (Nat.le_of_ble_eq_true rfl) dX8_pay_72 ⟨Nat.le_of_ble_eq_true rfl, Nat.le_of_ble_eq_true rfl⟩ (fun r17 f18 H locs hp19 hw => ?_)
  obtain ⟨hp19a, hR2⟩ := hp19
  rw [show gaC no w (p2 - tkC κ w p2 - κ 0 0 0) (pyK κ w ev p2, 0) 3 = pgC κ no w ev p2 from rfl] at hp19a hR2
  rw [hp19a]
  have hO : oK (pyK κ w ev p2) (pgC κ no w ev p2).1 := oK_gaC (S := (pyK κ w ev p2, 0)) (oK.refl _) 3
  have hx10 : ¬ (pgC κ no w ev p2).1 10 w wk = 1 := by rw [hO.1 10 (by decide), pyK_k (by decide) (by decide)]; exact hno10
  obtain ⟨ν, eν⟩ : ∃ z, z = (pgC κ no w ev p2).1 := ⟨_, rfl⟩
  rw [← eν] at hR2 hO hx10
  refine lv_istore (lv' := [(5, .int (pgC κ no w ev p2).2), (4, .int (p2 - (tkC κ w p2))), (3, .int (tkC κ w p2)), (0, .ref (α 0 0 0)), (1, .ref (α 3 w 0)), (2, .int p2)]) hx hb dX8_pay_75 hl (by decide) rfl (fun ls hl => ?_)
  refine lv_aload_n hx hb dX8_pay_77 rfl (lv_at hl 4 rfl) ?_
  refine lv_aload_n hx hb dX8_pay_78 rfl (lv_at hl 3 rfl) ?_
  refine fw_get hx hb hts hown hE.1.1 hw (ci := 8) (fs := [.ref (α 0 0 1), .ref (α 0 0 2), .ref (α 0 0 3), .ref (α 0 0 4), .ref (α 0 0 5), .int (nI nw), .int (nI no), .int (nI nt), .int (ν 0 0 0), .int (nI wk)]) (v := .int (nI wk)) hR2.x iX8_pay_8 rfl 9 (by decide) rfl (by decide +kernel) dX8_pay_79 ?_
  refine fw_new hx hb hts hown hE.1.1 hw hE.2.1 (ci := 5) (C := RX5) (T := TX5) (N := 4) (fs := [.int 0, .int 0, .int 0, .int 0]) iX8_pay_5 tyX5 tyX5_ok (by decide +kernel) (by decide +kernel) (by decide +kernel) rfl (fun j hj => by rcases (show j = 0 ∨ j = 1 ∨ j = 2 ∨ j = 3 by omega) with rfl | rfl | rfl | rfl <;> rfl) (Nat.le_of_ble_eq_true rfl) (Nat.le_of_ble_eq_true rfl) dX8_pay_82 (fun q20 H hnq20 hw => ?_)
  have hbq20 : f18 q20 = none := hnq20
  have n21 : (α 0 0 0) ≠ q20 := fun z => absurd (hR2.x.symm.trans ((congrArg f18 z).trans hnq20)) (by simp)
  have n22 : (α 3 w 0) ≠ q20 := fun z => absurd ((hR2.w0 hwn).symm.trans ((congrArg f18 z).trans hnq20)) (by simp)
  have n23 : (α 3 w 5) ≠ q20 := fun z => absurd ((hR2.w5 hwn).symm.trans ((congrArg f18 z).trans hnq20)) (by simp)
  obtain ⟨f24, ef24⟩ : ∃ z, z = fw_up f18 q20 (.inr (5, [.int 0, .int 0, .int 0, .int 0])) := ⟨_, rfl⟩
  have hw : fw_S D A s.heap f24 H locs := by rw [ef24]; exact hw
  have h25 : f24 (α 0 0 0) = some (.inr (8, [.ref (α 0 0 1), .ref (α 0 0 2), .ref (α 0 0 3), .ref (α 0 0 4), .ref (α 0 0 5), .int (nI nw), .int (nI no), .int (nI nt), .int (ν 0 0 0), .int (nI wk)])) := by rw [ef24]; exact (fw_up_n n21).trans hR2.x
  have h26 : f24 (α 3 w 0) = some (.inr (7, [.ref (α 1 (ν 4 w 0).toNatClampNeg 0), .ref (α 3 w 1), .int (ν 4 w 1), .int (ν 4 w 2), .int (ν 4 w 3), .int (ν 4 w 4), .ref (α 3 w 4), .ref (α 3 w 5)])) := by rw [ef24]; exact (fw_up_n n22).trans (hR2.w0 hwn)
  have h27 : f24 (α 3 w 5) = some (.inl (y 6, 31, .inr (.inr (.inr (.inr (slRow ν α w)))))) := by rw [ef24]; exact (fw_up_n n23).trans (hR2.w5 hwn)
  have h28 : f24 q20 = some (.inr (5, [.int 0, .int 0, .int 0, .int 0])) := by rw [ef24]; exact fw_up_s
  refine lv_dup hx hb dX8_pay_85 rfl ?_
  refine lv_iload_n hx hb dX8_pay_86 rfl (lv_at hl 5 rfl) ?_
  refine lv_iload_n hx hb dX8_pay_87 rfl (lv_at hl 2 rfl) ?_
  refine lv_iload hx hb dX8_pay_88 (lv_at hl 0 rfl) ?_
  refine lv_iload hx hb dX8_pay_90 (lv_at hl 1 rfl) ?_
  refine lv_iload hx hb dX8_pay_92 (lv_at hl 0 rfl) ?_
  refine lv_isub hx hb dX8_pay_94 ?_
  refine fw_callIv hx hb hml hown hts hE hw [.int p2, .int (tkC κ w p2), .int (pgC κ no w ev p2).2, .int ((p2 - (tkC κ w p2)) - (pgC κ no w ev p2).2)] [.ref q20, .int (nI wk), .ref (α 3 w 0)] (c_X5_init l D A y sa f24 q20 p2 (tkC κ w p2) ((pgC κ no w ev p2).2) ((p2 - (tkC κ w p2)) - (pgC κ no w ev p2).2) h28) (cwI 4 hts gX8_pay_X5_init rfl rfl rfl (hts (.initialized RX5) (by decide +kernel)) (hts (.methodLink RX8 245 yX5_init) (by decide +kernel)) (hts (.instanceMethod yX5_init) (by decide +kernel)) rfl (by decide +kernel) ⟨Nat.le_of_ble_eq_true rfl, Nat.le_of_ble_eq_true rfl⟩) rfl hl.1 rfl (Nat.le_of_ble_eq_true rfl) dX8_pay_95 ⟨Nat.le_of_ble_eq_true rfl, Nat.le_of_ble_eq_true rfl⟩ (fun f30 H locs hp31 hw => ?_)
  have ef30 := hp31
  have h32 : f30 (α 0 0 0) = some (.inr (8, [.ref (α 0 0 1), .ref (α 0 0 2), .ref (α 0 0 3), .ref (α 0 0 4), .ref (α 0 0 5), .int (nI nw), .int (nI no), .int (nI nt), .int (ν 0 0 0), .int (nI wk)])) := by rw [ef30, fw_up_n n21]; exact h25
  have h33 : f30 (α 3 w 0) = some (.inr (7, [.ref (α 1 (ν 4 w 0).toNatClampNeg 0), .ref (α 3 w 1), .int (ν 4 w 1), .int (ν 4 w 2), .int (ν 4 w 3), .int (ν 4 w 4), .ref (α 3 w 4), .ref (α 3 w 5)])) := by rw [ef30, fw_up_n n22]; exact h26
  have h34 : f30 (α 3 w 5) = some (.inl (y 6, 31, .inr (.inr (.inr (.inr (slRow ν α w)))))) := by rw [ef30, fw_up_n n23]; exact h27
  have h35 : f30 q20 = some (.inr (5, [.int p2, .int (tkC κ w p2), .int ((pgC κ no w ev p2).2), .int ((p2 - (tkC κ w p2)) - (pgC κ no w ev p2).2)])) := by rw [ef30]; exact fw_up_s
  refine fw_callVv hx hb hml hown hts hE hw [.int (nI wk), .ref q20] [] (c_X7_keepSlip l D A y sa f30 (α 3 w 0) (α 1 (ν 4 w 0).toNatClampNeg 0) (α 3 w 1) (α 3 w 4) (α 3 w 5) (ν 4 w 1) (ν 4 w 2) (ν 4 w 3) (ν 4 w 4) wk q20 p2 (tkC κ w p2) ((pgC κ no w ev p2).2) ((p2 - (tkC κ w p2)) - (pgC κ no w ev p2).2) (slRow ν α w) hk31 h33 h34 h35) (cwV 2 hts gX8_pay_X7_keepSlip rfl rfl rfl (by decide +kernel) ⟨Nat.le_of_ble_eq_true rfl, Nat.le_of_ble_eq_true rfl⟩) (ci := 7) rfl rfl h33 rfl hl.1 rfl (Nat.le_of_ble_eq_true rfl) dX8_pay_98 ⟨Nat.le_of_ble_eq_true rfl, Nat.le_of_ble_eq_true rfl⟩ (fun f37 H locs hp38 hw => ?_)
  have ef37 := hp38
  have h39 : f37 (α 0 0 0) = some (.inr (8, [.ref (α 0 0 1), .ref (α 0 0 2), .ref (α 0 0 3), .ref (α 0 0 4), .ref (α 0 0 5), .int (nI nw), .int (nI no), .int (nI nt), .int (ν 0 0 0), .int (nI wk)])) := by rw [ef37, fw_up_n (fw_ne2 h32 h34 (by simp))]; exact h32
  have h40 : f37 (α 3 w 0) = some (.inr (7, [.ref (α 1 (ν 4 w 0).toNatClampNeg 0), .ref (α 3 w 1), .int (ν 4 w 1), .int (ν 4 w 2), .int (ν 4 w 3), .int (ν 4 w 4), .ref (α 3 w 4), .ref (α 3 w 5)])) := by rw [ef37, fw_up_n (fw_ne2 h33 h34 (by simp))]; exact h33
  have h41 : f37 q20 = some (.inr (5, [.int p2, .int (tkC κ w p2), .int ((pgC κ no w ev p2).2), .int ((p2 - (tkC κ w p2)) - (pgC κ no w ev p2).2)])) := by rw [ef37, fw_up_n (Ne.symm n23)]; exact h35
  have h42 : f37 (α 3 w 5) = some (.inl (y 6, 31, .inr (.inr (.inr (.inr (va_up (slRow ν α w) wk (some q20))))))) := by rw [ef37]; exact fw_up_s
  exact fw_vret hx hb hr hlocks hw (Nat.le_of_ble_eq_true rfl) (Nat.le_of_ble_eq_true rfl) dX8_pay_101 (⟨_, fun k i j hk => aUp_k (K := 5) (show k ≠ 5 by omega), by rw [ef37, ef30, ef24, fw_up_up]; unfold payK; rw [← eν]; exact hR2.newL hwn hk31 hx10 _ _ _ _ hbq20⟩)

def evC (κ : cS) (w : Nat) : Nat := (κ 4 w 0).toNatClampNeg
def stC (κ : cS) (no wk w : Nat) : cS := if clC κ wk w < 0 then upF κ 4 w (va_up (va_up (va_up (κ 4 w) 2 (κ 4 w 2 - -clC κ wk w)) 3 (κ 4 w 3 + -clC κ wk w)) 4 (κ 4 w 4 + -clC κ wk w)) else if ¬ clC κ wk w = 0 ∧ ¬ κ 1 (evC κ w) 0 < clC κ wk w then payK κ no wk w (evC κ w) (clC κ wk w) else κ
def snC (κ : cS) (wk w : Nat) : Int32 := if clC κ wk w < 0 then 0 else if ¬ clC κ wk w = 0 ∧ ¬ κ 1 (evC κ w) 0 < clC κ wk w then 1 else 0
theorem ow_1 {g : Nat → Int32} {a b c : Int32} : va_up (va_up (va_up g 2 a) 3 b) 4 c 1 = g 1 := by rw [va_up_n (by decide), va_up_n (by decide), va_up_n (by decide)]
theorem ow_2 {g : Nat → Int32} {a b c : Int32} : va_up (va_up (va_up g 2 a) 3 b) 4 c 2 = a := by rw [va_up_n (by decide), va_up_n (by decide), va_up_s]
theorem ow_3 {g : Nat → Int32} {a b c : Int32} : va_up (va_up (va_up g 2 a) 3 b) 4 c 3 = b := by rw [va_up_n (by decide), va_up_s]
theorem ow_4 {g : Nat → Int32} {a b c : Int32} : va_up (va_up (va_up g 2 a) 3 b) 4 c 4 = c := va_up_s
theorem iX8_settle_1 : ∀ w ∈ wsX10, w ∈ wsX8_settle := by decide +kernel
theorem iX8_settle_7 : ∀ w ∈ wsX70, w ∈ wsX8_settle := by decide +kernel
set_option maxHeartbeats 4000000 in
set_option maxRecDepth 100000 in
/-- settle -/
theorem c_X8_settle (l : Launch) (D : va_G) (A : Nat → Prop) (y : Nat → ClassId) (sa : Nat → Nat) (f : fw_F) (α : Nat → Nat → Nat → Nat) (κ : cS) (nw no nt wk : Nat) (w : Nat) (hwn : w < nw) (hk31 : wk < 31) (hno10 : ¬ κ 10 w wk = 1) (hI : Ic nw no nt wk κ) (hR : Rc y nw no nt wk κ α f) : Met l yX8_settle wsX8_settle ({ frames := 4, cells := 1, slots := 4, locals := 101 } : Room) (cPc D A y sa f [.ref (α 0 0 0), .ref (α 3 w 0)]) (cQi D A (fun r f1 => r = snC κ wk w ∧ ∃ α2, (∀ k i j, k < 4 → α2 k i j = α k i j) ∧ Rc y nw no nt wk (stC κ no wk w) α2 f1)) 1 4 A := by
  refine fw_met (by decide) rfl [.ref (α 0 0 0), .ref (α 3 w 0)] (Nat.le_of_ble_eq_true rfl) ?_
  intro p e s m args below meth c ls I hin hE hw hl
  obtain ⟨hx, hb, hr, hts, hown, hlocks, hml⟩ := I
  have hown : s.vm.findClass RX8 = some m.cls := hown
  have hl : lv_has ls 3 [(0, .ref (α 0 0 0)), (1, .ref (α 3 w 0))] := hl
  obtain ⟨hI1, hI2, hI3, hI4, hI5, hI6, hI7, hI8, hI9, hI10⟩ := id hI
  refine lv_aload_n hx hb dX8_settle_0 rfl (lv_at hl 0 rfl) ?_
  refine lv_aload_n hx hb dX8_settle_1 rfl (lv_at hl 1 rfl) ?_
  refine fw_callVi hx hb hml hown hts hE hw [.ref (α 3 w 0)] [] (c_X8_claimOf l D A y sa f α κ nw no nt wk w hwn hI hR) (cwV 1 hts gX8_settle_X8_claimOf rfl rfl rfl (by decide +kernel) ⟨Nat.le_of_ble_eq_true rfl, Nat.le_of_ble_eq_true rfl⟩) (ci := 8) rfl rfl hR.x rfl hl.1 rfl (Nat.le_of_ble_eq_true rfl) dX8_settle_2 ⟨Nat.le_of_ble_eq_true rfl, Nat.le_of_ble_eq_true rfl⟩ (fun r1 f2 H locs hp3 hw => ?_)
  obtain ⟨hp3a, hp3b⟩ := hp3
  rw [hp3b] at hw
  rw [hp3a]
  refine lv_istore_n (lv' := [(2, .int (clC κ wk w)), (0, .ref (α 0 0 0)), (1, .ref (α 3 w 0))]) hx hb dX8_settle_5 rfl hl (by decide) rfl (fun ls hl => ?_)
  refine lv_iload_n hx hb dX8_settle_6 rfl (lv_at hl 0 rfl) ?_
  refine lv_if_ge (tgt := 18) hx hb dX8_settle_7 (by decide) (fun c_4 => ?_) (fun c_4 => ?_)
  · refine lv_iload_n hx hb dX8_settle_18 rfl (lv_at hl 0 rfl) ?_
    refine lv_if_eq (tgt := 33) hx hb dX8_settle_19 (by decide) (fun c_5 => ?_) (fun c_5 => ?_)
    · refine lv_iconst (v := 0) hx hb dX8_settle_33 (by decide) ?_
      exact fw_zret hx hb hr hlocks hw (Nat.le_of_ble_eq_true rfl) (Nat.le_of_ble_eq_true rfl) (by decide +kernel) dX8_settle_34 (⟨by unfold snC; rw [if_neg (Int32.not_lt.mpr c_4), if_neg (fun z => z.1 c_5)], α, fun _ _ _ _ => rfl, by unfold stC; rw [if_neg (Int32.not_lt.mpr c_4), if_neg (fun z => z.1 c_5)]; exact hR⟩)
    · obtain ⟨ev, hev, he⟩ := hI5 w hwn
      have hee : evC κ w = ev := by unfold evC; rw [he, nI_clamp (n := ev) (by omega)]
      have hWo : f (α 3 w 0) = some (.inr (7, [.ref (α 1 ev 0), .ref (α 3 w 1), .int (κ 4 w 1), .int (κ 4 w 2), .int (κ 4 w 3), .int (κ 4 w 4), .ref (α 3 w 4), .ref (α 3 w 5)])) := by have z := hR.w0 hwn; rw [he, nI_clamp (n := ev) (by omega)] at z; exact z
      refine lv_aload_n hx hb dX8_settle_22 rfl (lv_at hl 2 rfl) ?_
      refine fw_get hx hb hts hown hE.1.1 hw (ci := 7) (fs := [.ref (α 1 ev 0), .ref (α 3 w 1), .int (κ 4 w 1), .int (κ 4 w 2), .int (κ 4 w 3), .int (κ 4 w 4), .ref (α 3 w 4), .ref (α 3 w 5)]) (v := .ref (α 1 ev 0)) hWo iX8_settle_7 rfl 0 (by decide) rfl (by decide +kernel) dX8_settle_23 ?_
      refine fw_get hx hb hts hown hE.1.1 hw (ci := 1) (fs := [.int (κ 1 ev 0), .int (κ 1 ev 1)]) (v := .int (κ 1 ev 0)) (hR.p hev) iX8_settle_1 rfl 0 (by decide) rfl (by decide +kernel) dX8_settle_26 ?_
      refine lv_iload_n hx hb dX8_settle_29 rfl (lv_at hl 0 rfl) ?_
      refine lv_icmp_ge (tgt := 35) hx hb dX8_settle_30 (by decide) (fun c_6 => ?_) (fun c_6 => ?_)
      · refine lv_aload_n hx hb dX8_settle_35 rfl (lv_at hl 1 rfl) ?_
        refine lv_aload_n hx hb dX8_settle_36 rfl (lv_at hl 2 rfl) ?_
        refine lv_iload_n hx hb dX8_settle_37 rfl (lv_at hl 0 rfl) ?_
        refine fw_callVv hx hb hml hown hts hE hw [.ref (α 3 w 0), .int (clC κ wk w)] [] (c_X8_pay l D A y sa f α κ nw no nt wk w ev (clC κ wk w) hwn hev he hk31 hno10 hI hR) (cwV 2 hts gX8_settle_X8_pay rfl rfl rfl (by decide +kernel) ⟨Nat.le_of_ble_eq_true rfl, Nat.le_of_ble_eq_true rfl⟩) (ci := 8) rfl rfl hR.x rfl hl.1 rfl (Nat.le_of_ble_eq_true rfl) dX8_settle_38 ⟨Nat.le_of_ble_eq_true rfl, Nat.le_of_ble_eq_true rfl⟩ (fun f8 H locs hp9 hw => ?_)
        obtain ⟨α2, hα2, hR2⟩ := hp9
        refine lv_iconst (v := 1) hx hb dX8_settle_41 (by decide) ?_
        exact fw_zret hx hb hr hlocks hw (Nat.le_of_ble_eq_true rfl) (Nat.le_of_ble_eq_true rfl) (by decide +kernel) dX8_settle_42 (⟨by unfold snC; rw [if_neg (Int32.not_lt.mpr c_4), if_pos ⟨c_5, by rw [hee]; exact Int32.not_lt.mpr c_6⟩], α2, hα2, by unfold stC; rw [if_neg (Int32.not_lt.mpr c_4), if_pos ⟨c_5, by rw [hee]; exact Int32.not_lt.mpr c_6⟩, hee]; exact hR2⟩)
      · refine lv_iconst (v := 0) hx hb dX8_settle_33 (by decide) ?_
        exact fw_zret hx hb hr hlocks hw (Nat.le_of_ble_eq_true rfl) (Nat.le_of_ble_eq_true rfl) (by decide +kernel) dX8_settle_34 (⟨by unfold snC; rw [if_neg (Int32.not_lt.mpr c_4), if_neg (fun z => z.2 (by rw [hee]; exact Int32.not_le.mp c_6))], α, fun _ _ _ _ => rfl, by unfold stC; rw [if_neg (Int32.not_lt.mpr c_4), if_neg (fun z => z.2 (by rw [hee]; exact Int32.not_le.mp c_6))]; exact hR⟩)
  · refine lv_aload_n hx hb dX8_settle_10 rfl (lv_at hl 2 rfl) ?_
    refine lv_iload_n hx hb dX8_settle_11 rfl (lv_at hl 0 rfl) ?_
    refine lv_ineg hx hb dX8_settle_12 ?_
    refine fw_callVv hx hb hml hown hts hE hw [.int (-(clC κ wk w))] [] (c_X7_owe l D A y sa f (α 3 w 0) (α 1 (κ 4 w 0).toNatClampNeg 0) (α 3 w 1) (α 3 w 4) (α 3 w 5) (κ 4 w 1) (κ 4 w 2) (κ 4 w 3) (κ 4 w 4) (-(clC κ wk w)) (hR.w0 hwn)) (cwV 1 hts gX8_settle_X7_owe rfl rfl rfl (by decide +kernel) ⟨Nat.le_of_ble_eq_true rfl, Nat.le_of_ble_eq_true rfl⟩) (ci := 7) rfl rfl (hR.w0 hwn) rfl hl.1 rfl (Nat.le_of_ble_eq_true rfl) dX8_settle_13 ⟨Nat.le_of_ble_eq_true rfl, Nat.le_of_ble_eq_true rfl⟩ (fun f11 H locs hp12 hw => ?_)
    have ef11 := hp12
    refine lv_iconst (v := 0) hx hb dX8_settle_16 (by decide) ?_
    exact fw_zret hx hb hr hlocks hw (Nat.le_of_ble_eq_true rfl) (Nat.le_of_ble_eq_true rfl) (by decide +kernel) dX8_settle_17 (⟨by unfold snC; rw [if_pos (Int32.not_le.mp c_4)], α, fun _ _ _ _ => rfl, by unfold stC; rw [if_pos (Int32.not_le.mp c_4), ef11]; have z := hR.setW hwn (va_up (va_up (va_up (κ 4 w) 2 (κ 4 w 2 - -(clC κ wk w))) 3 (κ 4 w 3 + -(clC κ wk w))) 4 (κ 4 w 4 + -(clC κ wk w))) (by rw [va_up_n (by decide), va_up_n (by decide), va_up_n (by decide)]); rw [ow_1, ow_2, ow_3, ow_4] at z; exact z⟩)
