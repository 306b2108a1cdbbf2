/-- order i of grade g: its step, on the class's numbers and what is garnished -/
def goC (no w : Nat) (a : Int32) (g : Nat) (S : cS × Int32) : Nat → cS × Int32
  | 0 => S
  | i + 1 => if i < no ∧ (goC no w a g S i).1 15 i 0 = nI w ∧ (goC no w a g S i).1 15 i 1 = nI g then (upF (goC no w a g S i).1 15 i (va_up ((goC no w a g S i).1 15 i) 2 ((goC no w a g S i).1 15 i 2 - payv (a - (goC no w a g S i).2) ((goC no w a g S i).1 15 i 2) ((goC no w a g S i).1 15 i 3))), (goC no w a g S i).2 + payv (a - (goC no w a g S i).2) ((goC no w a g S i).1 15 i 2) ((goC no w a g S i).1 15 i 3)) else goC no w a g S i
def gaC (no w : Nat) (a : Int32) (S : cS × Int32) : Nat → cS × Int32
  | 0 => S
  | g + 1 => goC no w a g (gaC no w a S g) 20
/-- only the orders' rests differ -/
def oK (κ κ2 : cS) : Prop := (∀ k, k ≠ 15 → κ2 k = κ k) ∧ ∀ o j, j ≠ 2 → κ2 15 o j = κ 15 o j
theorem oK.refl (κ : cS) : oK κ κ := ⟨fun _ _ => rfl, fun _ _ _ => rfl⟩
theorem oK.up {κ κ2 : cS} (h : oK κ κ2) (o : Nat) (v : Int32) : oK κ (upF κ2 15 o (va_up (κ2 15 o) 2 v)) := by
  refine ⟨fun k hk => (funext fun b => upF_k hk).trans (h.1 k hk), fun o2 j hj => ?_⟩
  rw [upF_e (fun z => hj z.2)]
  exact h.2 o2 j hj
theorem oK_goC {κ : cS} {no w g : Nat} {a : Int32} {S : cS × Int32} (h : oK κ S.1) : ∀ i, oK κ (goC no w a g S i).1
  | 0 => h
  | i + 1 => by
    unfold goC
    by_cases z : i < no ∧ (goC no w a g S i).1 15 i 0 = nI w ∧ (goC no w a g S i).1 15 i 1 = nI g
    · rw [if_pos z]
      exact (oK_goC h i).up _ _
    · rw [if_neg z]
      exact oK_goC h i
theorem oK_gaC {κ : cS} {no w : Nat} {a : Int32} {S : cS × Int32} (h : oK κ S.1) : ∀ g, oK κ (gaC no w a S g).1
  | 0 => h
  | g + 1 => oK_goC (oK_gaC h g) 20
theorem Rc.inW {y : Nat → ClassId} {nw no nt wk : Nat} {κ : cS} {α : Nat → Nat → Nat → Nat} {f : fw_F} (h : Rc y nw no nt wk κ α f) {v w : Nat} (hv : v < nw) (hw : w < nw) (e : α 3 v 0 = α 3 w 0) : v = w := (h.2 3 v 0 3 w 0 (by rw [show cellC y nw no nt wk κ α 3 v 0 = some (wkCell κ α v) from if_pos hv]; exact fun q => nomatch q) (by rw [show cellC y nw no nt wk κ α 3 w 0 = some (wkCell κ α w) from if_pos hw]; exact fun q => nomatch q) e).2.1
theorem Ic.of {nw no nt wk : Nat} {κ κ2 : cS} (h : Ic nw no nt wk κ) (h40 : ∀ w, κ2 4 w 0 = κ 4 w 0) (h41 : ∀ w, κ2 4 w 1 = κ 4 w 1) (h7 : κ2 7 = κ 7) (h5 : κ2 5 = κ 5) (h15 : ∀ o, κ2 15 o 0 = κ 15 o 0) (h16 : κ2 16 = κ 16) : Ic nw no nt wk κ2 := by
  obtain ⟨h1, h2, h3, h4, a5, a6, a7, a8, a9, a10⟩ := h
  refine ⟨h1, h2, h3, h4, ?_, ?_, ?_, ?_, ?_, ?_⟩
  · intro w hw; rw [h40]; exact a5 w hw
  · intro w hw; rw [h41]; exact a6 w hw
  · rw [h7]; exact a7
  · rw [h5]; exact a8
  · intro o ho; rw [h15]; exact a9 o ho
  · rw [h16]; exact a10
theorem Ic.oK {nw no nt wk : Nat} {κ κ2 : cS} (h : Ic nw no nt wk κ) (k : oK κ κ2) : Ic nw no nt wk κ2 :=
  h.of (fun w => by rw [k.1 4 (by decide)]) (fun w => by rw [k.1 4 (by decide)]) (k.1 7 (by decide)) (k.1 5 (by decide)) (fun o => k.2 o 0 (by decide)) (k.1 16 (by decide))
theorem iX8_garnish_0 : ∀ w ∈ wsX00, w ∈ wsX8_garnish := by decide +kernel
theorem iX8_garnish_8 : ∀ w ∈ wsX80, w ∈ wsX8_garnish := by decide +kernel
set_option maxHeartbeats 4000000 in
set_option maxRecDepth 100000 in
/-- garnish -/
theorem c_X8_garnish (l : Launch) (D : va_G) (A : Nat → Prop) (y : Nat → ClassId) (sa : Nat → Nat) (f : fw_F) (α : Nat → Nat → Nat → Nat) (κ : cS) (nw no nt wk : Nat) (w : Nat) (p2 : Int32) (hwn : w < nw) (hI : Ic nw no nt wk κ) (hR : Rc y nw no nt wk κ α f) : Met l yX8_garnish wsX8_garnish ({ frames := 2, cells := 0, slots := 0, locals := 48 } : Room) (cPc D A y sa f [.ref (α 0 0 0), .ref (α 3 w 0), .int p2]) (cQi D A (fun r f1 => r = (gaC no w p2 (κ, 0) 3).2 ∧ Rc y nw no nt wk (gaC no w p2 (κ, 0) 3).1 α f1)) 0 0 A := by
  refine fw_met (by decide) rfl [.ref (α 0 0 0), .ref (α 3 w 0), .int p2] (Nat.le_of_ble_eq_true rfl) ?_
  intro p e s m args below meth c ls I hin hE hw hl
  obtain ⟨hx, hb, hr, hts, hown, hlocks, hml⟩ := I
  have hown : s.vm.findClass RX8 = some m.cls := hown
  have hl : lv_has ls 9 [(0, .ref (α 0 0 0)), (1, .ref (α 3 w 0)), (2, .int p2)] := hl
  obtain ⟨hI1, hI2, hI3, hI4, hI5, hI6, hI7, hI8, hI9, hI10⟩ := id hI
  refine lv_iconst (v := 0) hx hb dX8_garnish_0 (by decide) ?_
  refine lv_istore_n (lv' := [(3, .int 0), (0, .ref (α 0 0 0)), (1, .ref (α 3 w 0)), (2, .int p2)]) hx hb dX8_garnish_1 rfl hl (by decide) rfl (fun ls hl => ?_)
  refine lv_iconst (v := 0) hx hb dX8_garnish_2 (by decide) ?_
  refine lv_istore (lv' := [(4, .int 0), (3, .int 0), (0, .ref (α 0 0 0)), (1, .ref (α 3 w 0)), (2, .int p2)]) hx hb dX8_garnish_3 hl (by decide) rfl (fun ls hl => ?_)
  refine fw_loop 5 9 (fun r : Nat × fw_F => 3 - r.1) (fun r => r.1 ≤ 3 ∧ Rc y nw no nt wk (gaC no w p2 (κ, 0) r.1).1 α r.2) (fun r => r.2) (fun r => [(4, .int (nI r.1)), (3, .int (gaC no w p2 (κ, 0) r.1).2), (0, .ref (α 0 0 0)), (1, .ref (α 3 w 0)), (2, .int p2)]) (fun r => []) (fun r => 0) (fun r => 0) (fun r H locs ls hP hw hl IH => ?_) (0, f) s.heap [] ls ⟨by omega, hR⟩ hw (lv_sub hl [0, 1, 2, 3, 4] rfl)
  obtain ⟨g, fa⟩ := r
  obtain ⟨hP1, hR⟩ := hP
  skip
  try dsimp only at hw
  try dsimp only at hl
  try dsimp only at IH
  try dsimp only at ⊢
  dsimp only at hP1 hR
  obtain ⟨S, eS⟩ : ∃ z, z = (gaC no w p2 (κ, 0) g) := ⟨_, rfl⟩
  rw [← eS] at hR hl
  have hO1 : oK κ S.1 := by rw [eS]; exact oK_gaC (oK.refl κ) g
  have IH1 := IH
  refine lv_iload hx hb dX8_garnish_5 (lv_at hl 0 rfl) ?_
  refine lv_iconst (v := 3) hx hb dX8_garnish_7 (by decide) ?_
  refine lv_icmp_ge (tgt := 86) hx hb dX8_garnish_8 (by decide) (fun c_1 => ?_) (fun c_1 => ?_)
  · have hg3 : g = 3 := nI_eqn (n := 3) c_1 hP1 (by decide)
    refine lv_iload_n hx hb dX8_garnish_86 rfl (lv_at hl 1 rfl) ?_
    exact fw_iret hx hb hr hlocks hw (Nat.le_of_ble_eq_true rfl) (Nat.le_of_ble_eq_true rfl) dX8_garnish_87 (⟨by rw [eS, hg3], by rw [← hg3, ← eS]; exact hR⟩)
  · have hg3 : g < 3 := nI_hi (n := 3) c_1 (by omega)
    refine lv_aload_n hx hb dX8_garnish_11 rfl (lv_at hl 2 rfl) ?_
    refine fw_get hx hb hts hown hE.1.1 hw (ci := 8) (fs := [.ref (α 0 0 1), .ref (α 0 0 2), .ref (α 0 0 3), .ref (α 0 0 4), .ref (α 0 0 5), .int (nI nw), .int (nI no), .int (nI nt), .int (S.1 0 0 0), .int (nI wk)]) (v := .ref (α 0 0 4)) hR.x iX8_garnish_8 rfl 3 (by decide) rfl (by decide +kernel) dX8_garnish_12 ?_
    refine lv_astore (lv' := [(5, .ref (α 0 0 4)), (4, .int (nI g)), (3, .int (S.2)), (0, .ref (α 0 0 0)), (1, .ref (α 3 w 0)), (2, .int p2)]) hx hb dX8_garnish_15 hl (by decide) rfl (fun ls hl => ?_)
    refine lv_aload hx hb dX8_garnish_17 (lv_at hl 0 rfl) ?_
    refine fw_alen hx hb hE.1.1 hw hR.x4 2 rfl (v := 20) rfl dX8_garnish_19 ?_
    refine lv_istore (lv' := [(6, .int 20), (5, .ref (α 0 0 4)), (4, .int (nI g)), (3, .int (S.2)), (0, .ref (α 0 0 0)), (1, .ref (α 3 w 0)), (2, .int p2)]) hx hb dX8_garnish_20 hl (by decide) rfl (fun ls hl => ?_)
    refine lv_iconst (v := 0) hx hb dX8_garnish_22 (by decide) ?_
    refine lv_istore (lv' := [(7, .int 0), (6, .int 20), (5, .ref (α 0 0 4)), (4, .int (nI g)), (3, .int (S.2)), (0, .ref (α 0 0 0)), (1, .ref (α 3 w 0)), (2, .int p2)]) hx hb dX8_garnish_23 hl (by decide) rfl (fun ls hl => ?_)
    skip
    refine fw_loop 25 9 (fun r : Nat × fw_F => 20 - r.1) (fun r => r.1 ≤ 20 ∧ Rc y nw no nt wk (goC no w p2 g S r.1).1 α r.2) (fun r => r.2) (fun r => [(7, .int (nI r.1)), (6, .int 20), (5, .ref (α 0 0 4)), (4, .int (nI g)), (3, .int (goC no w p2 g S r.1).2), (0, .ref (α 0 0 0)), (1, .ref (α 3 w 0)), (2, .int p2)]) (fun r => []) (fun r => 0) (fun r => 0) (fun r H locs ls hP hw hl IH => ?_) (0, fa) H locs ls ⟨by omega, hR⟩ hw (lv_sub hl [0, 1, 2, 3, 4, 5, 6, 7] rfl)
    obtain ⟨i, fb⟩ := r
    obtain ⟨hP2, hR⟩ := hP
    skip
    try dsimp only at hw
    try dsimp only at hl
    try dsimp only at IH
    try dsimp only at ⊢
    dsimp only at hP2 hR
    obtain ⟨ν, eν⟩ : ∃ z, z = goC no w p2 g S i := ⟨_, rfl⟩
    rw [← eν] at hR hl
    have hO : oK κ ν.1 := by rw [eν]; exact oK_goC hO1 i
    refine lv_iload hx hb dX8_garnish_25 (lv_at hl 0 rfl) ?_
    refine lv_iload hx hb dX8_garnish_27 (lv_at hl 1 rfl) ?_
    refine lv_icmp_ge (tgt := 80) hx hb dX8_garnish_29 (by decide) (fun c_2 => ?_) (fun c_2 => ?_)
    · have hi20 : i = 20 := nI_eqn (n := 20) c_2 hP2 (by decide)
      refine lv_iinc (v := (nI (g + 1))) (lv' := [(4, .int (nI (g + 1))), (7, .int (nI i)), (6, .int 20), (5, .ref (α 0 0 4)), (3, .int (ν.2)), (0, .ref (α 0 0 0)), (1, .ref (α 3 w 0)), (2, .int p2)]) hx hb dX8_garnish_80 hl (k := 3) rfl (nI_1 (g)) (by decide) rfl (fun ls hl => ?_)
      refine lv_goto (tgt := 5) hx hb dX8_garnish_83 (by decide) ?_
      have hgn : (gaC no w p2 (κ, 0) (g + 1)) = ν := by show goC no w p2 g (gaC no w p2 (κ, 0) g) 20 = ν; rw [← eS, ← hi20, ← eν]
      exact IH1 (g + 1, fb) _ _ _ (by dsimp only; omega) ⟨by dsimp only; omega, by show Rc y nw no nt wk (gaC no w p2 (κ, 0) (g + 1)).1 α fb; rw [hgn]; exact hR⟩ hw (by rw [show (gaC no w p2 (κ, 0) (g + 1, fb).1).2 = ν.2 from congrArg Prod.snd hgn]; exact lv_sub hl [0, 4, 5, 6, 7] rfl)
    · have hi20 : i < 20 := nI_hi (n := 20) c_2 (by omega)
      refine lv_aload hx hb dX8_garnish_32 (lv_at hl 2 rfl) ?_
      refine lv_iload hx hb dX8_garnish_34 (lv_at hl 0 rfl) ?_
      refine fw_aald hx hb hE.1.1 hw (g := (fun e => if e < no then some (α 6 e 0) else none)) hR.x4 2 rfl (vp_in_nI (by omega) (by decide)) dX8_garnish_36 ?_
      rw [nI_clamp (n := i) (by omega)]
      by_cases hj : i < no
      · rw [if_pos hj]
        obtain ⟨wv, hwv, hwe⟩ := hI9 i hj
        have hwe2 : ν.1 15 i 0 = nI wv := (hO.2 i 0 (by decide)).trans hwe
        have hOr : fb (α 6 i 0) = some (.inr (0, [.ref (α 3 wv 0), .int (ν.1 15 i 1), .int (ν.1 15 i 2), .int (ν.1 15 i 3)])) := by have z := hR.o hj; rw [hwe2, nI_clamp (n := wv) (by omega)] at z; exact z
        refine lv_astore (lv' := [(8, .ref (α 6 i 0)), (7, .int (nI i)), (6, .int 20), (5, .ref (α 0 0 4)), (4, .int (nI g)), (3, .int (ν.2)), (0, .ref (α 0 0 0)), (1, .ref (α 3 w 0)), (2, .int p2)]) hx hb dX8_garnish_37 hl (by decide) rfl (fun ls hl => ?_)
        refine lv_aload hx hb dX8_garnish_39 (lv_at hl 0 rfl) ?_
        refine lv_ifnull hx hb dX8_garnish_41 ?_
        refine lv_aload hx hb dX8_garnish_44 (lv_at hl 0 rfl) ?_
        refine fw_get hx hb hts hown hE.1.1 hw (ci := 0) (fs := [.ref (α 3 wv 0), .int (ν.1 15 i 1), .int (ν.1 15 i 2), .int (ν.1 15 i 3)]) (v := .ref (α 3 wv 0)) hOr iX8_garnish_0 rfl 0 (by decide) rfl (by decide +kernel) dX8_garnish_46 ?_
        refine lv_aload_n hx hb dX8_garnish_49 rfl (lv_at hl 7 rfl) ?_
        refine lv_acmp_ne (rx := some (α 3 wv 0)) (ry := some (α 3 w 0)) (tgt := 74) hx hb dX8_garnish_50 (by decide) (fun c_3 => ?_) (fun c_3 => ?_)
        · have hne : ¬ ν.1 15 i 0 = nI w := fun z => c_3 (by rw [nI_inj2 (hwe2.symm.trans z) (by omega) (by omega)])
          refine lv_iinc (v := (nI (i + 1))) (lv' := [(7, .int (nI (i + 1))), (8, .ref (α 6 i 0)), (6, .int 20), (5, .ref (α 0 0 4)), (4, .int (nI g)), (3, .int (ν.2)), (0, .ref (α 0 0 0)), (1, .ref (α 3 w 0)), (2, .int p2)]) hx hb dX8_garnish_74 hl (k := 1) rfl (nI_1 (i)) (by decide) rfl (fun ls hl => ?_)
          refine lv_goto (tgt := 25) hx hb dX8_garnish_77 (by decide) ?_
          have hst : goC no w p2 g S (i + 1) = ν := by unfold goC; rw [← eν]; exact if_neg (fun z => hne z.2.1)
          exact IH (i + 1, fb) _ _ _ (by dsimp only; omega) ⟨by dsimp only; omega, by show Rc y nw no nt wk (goC no w p2 g S (i + 1)).1 α fb; rw [hst]; exact hR⟩ hw (by rw [show (goC no w p2 g S (i + 1, fb).1).2 = ν.2 from congrArg Prod.snd hst]; exact lv_sub hl [0, 2, 3, 4, 5, 6, 7, 8] rfl)
        · have hweq : ν.1 15 i 0 = nI w := by rw [hwe2, hR.inW hwv hwn (Option.some.inj c_3)]
          refine lv_aload hx hb dX8_garnish_53 (lv_at hl 0 rfl) ?_
          refine fw_get hx hb hts hown hE.1.1 hw (ci := 0) (fs := [.ref (α 3 wv 0), .int (ν.1 15 i 1), .int (ν.1 15 i 2), .int (ν.1 15 i 3)]) (v := .int (ν.1 15 i 1)) hOr iX8_garnish_0 rfl 1 (by decide) rfl (by decide +kernel) dX8_garnish_55 ?_
          refine lv_iload hx hb dX8_garnish_58 (lv_at hl 4 rfl) ?_
          refine lv_icmp_ne (tgt := 74) hx hb dX8_garnish_60 (by decide) (fun c_4 => ?_) (fun c_4 => ?_)
          · refine lv_iinc (v := (nI (i + 1))) (lv' := [(7, .int (nI (i + 1))), (8, .ref (α 6 i 0)), (6, .int 20), (5, .ref (α 0 0 4)), (4, .int (nI g)), (3, .int (ν.2)), (0, .ref (α 0 0 0)), (1, .ref (α 3 w 0)), (2, .int p2)]) hx hb dX8_garnish_74 hl (k := 1) rfl (nI_1 (i)) (by decide) rfl (fun ls hl => ?_)
            refine lv_goto (tgt := 25) hx hb dX8_garnish_77 (by decide) ?_
            have hst : goC no w p2 g S (i + 1) = ν := by unfold goC; rw [← eν]; exact if_neg (fun z => c_4 z.2.2)
            exact IH (i + 1, fb) _ _ _ (by dsimp only; omega) ⟨by dsimp only; omega, by show Rc y nw no nt wk (goC no w p2 g S (i + 1)).1 α fb; rw [hst]; exact hR⟩ hw (by rw [show (goC no w p2 g S (i + 1, fb).1).2 = ν.2 from congrArg Prod.snd hst]; exact lv_sub hl [0, 2, 3, 4, 5, 6, 7, 8] rfl)
          · refine lv_iload_n hx hb dX8_garnish_63 rfl (lv_at hl 5 rfl) ?_
            refine lv_aload hx hb dX8_garnish_64 (lv_at hl 0 rfl) ?_
            refine lv_iload_n hx hb dX8_garnish_66 rfl (lv_at hl 8 rfl) ?_
            refine lv_iload_n hx hb dX8_garnish_67 rfl (lv_at hl 5 rfl) ?_
            refine lv_isub hx hb dX8_garnish_68 ?_
            refine fw_callVi hx hb hml hown hts hE hw [.int (p2 - (ν.2))] [.int (ν.2)] (c_X0_payOff l D A y sa fb (α 6 i 0) (α 3 wv 0) (ν.1 15 i 1) (ν.1 15 i 2) (ν.1 15 i 3) (p2 - ν.2) hOr) (cwV 1 hts gX8_garnish_X0_payOff rfl rfl rfl (by decide +kernel) ⟨Nat.le_of_ble_eq_true rfl, Nat.le_of_ble_eq_true rfl⟩) (ci := 0) rfl rfl hOr rfl hl.1 rfl (Nat.le_of_ble_eq_true rfl) dX8_garnish_69 ⟨Nat.le_of_ble_eq_true rfl, Nat.le_of_ble_eq_true rfl⟩ (fun r5 f6 H locs hp7 hw => ?_)
            obtain ⟨hp7a, hp7b⟩ := hp7
            rw [hp7a]
            have hR : Rc y nw no nt wk (upF ν.1 15 i (va_up (ν.1 15 i) 2 (ν.1 15 i 2 - payv (p2 - ν.2) (ν.1 15 i 2) (ν.1 15 i 3)))) α f6 := by rw [hp7b]; have z := hR.setO hj (ν.1 15 i 2 - payv (p2 - ν.2) (ν.1 15 i 2) (ν.1 15 i 3)); rw [hwe2, nI_clamp (n := wv) (by omega)] at z; exact z
            refine lv_iadd hx hb dX8_garnish_72 ?_
            refine lv_istore_n (lv' := [(3, .int ((ν.2) + (payv (p2 - ν.2) (ν.1 15 i 2) (ν.1 15 i 3)))), (8, .ref (α 6 i 0)), (7, .int (nI i)), (6, .int 20), (5, .ref (α 0 0 4)), (4, .int (nI g)), (0, .ref (α 0 0 0)), (1, .ref (α 3 w 0)), (2, .int p2)]) hx hb dX8_garnish_73 rfl hl (by decide) rfl (fun ls hl => ?_)
            refine lv_iinc (v := (nI (i + 1))) (lv' := [(7, .int (nI (i + 1))), (3, .int ((ν.2) + (payv (p2 - ν.2) (ν.1 15 i 2) (ν.1 15 i 3)))), (8, .ref (α 6 i 0)), (6, .int 20), (5, .ref (α 0 0 4)), (4, .int (nI g)), (0, .ref (α 0 0 0)), (1, .ref (α 3 w 0)), (2, .int p2)]) hx hb dX8_garnish_74 hl (k := 2) rfl (nI_1 (i)) (by decide) rfl (fun ls hl => ?_)
            refine lv_goto (tgt := 25) hx hb dX8_garnish_77 (by decide) ?_
            have hst : goC no w p2 g S (i + 1) = (upF ν.1 15 i (va_up (ν.1 15 i) 2 (ν.1 15 i 2 - payv (p2 - ν.2) (ν.1 15 i 2) (ν.1 15 i 3))), ν.2 + payv (p2 - ν.2) (ν.1 15 i 2) (ν.1 15 i 3)) := by unfold goC; rw [← eν]; exact if_pos ⟨hj, hweq, c_4⟩
            exact IH (i + 1, f6) _ _ _ (by dsimp only; omega) ⟨by dsimp only; omega, by show Rc y nw no nt wk (goC no w p2 g S (i + 1)).1 α f6; rw [hst]; exact hR⟩ hw (by rw [show (goC no w p2 g S (i + 1, f6).1).2 = ((upF ν.1 15 i (va_up (ν.1 15 i) 2 (ν.1 15 i 2 - payv (p2 - ν.2) (ν.1 15 i 2) (ν.1 15 i 3))), ν.2 + payv (p2 - ν.2) (ν.1 15 i 2) (ν.1 15 i 3)) : cS × Int32).2 from congrArg Prod.snd hst]; exact lv_sub hl [0, 3, 4, 5, 1, 6, 7, 8] rfl)
      · rw [if_neg hj]
        refine lv_astoreN (lv' := [(8, .null), (7, .int (nI i)), (6, .int 20), (5, .ref (α 0 0 4)), (4, .int (nI g)), (3, .int (ν.2)), (0, .ref (α 0 0 0)), (1, .ref (α 3 w 0)), (2, .int p2)]) hx hb dX8_garnish_37 hl (by decide) rfl (fun ls hl => ?_)
        refine lv_aloadN hx hb dX8_garnish_39 (lv_at hl 0 rfl) ?_
        refine lv_ifnullN (tgt := 74) hx hb dX8_garnish_41 (by decide) ?_
        refine lv_iinc (v := (nI (i + 1))) (lv' := [(7, .int (nI (i + 1))), (8, .null), (6, .int 20), (5, .ref (α 0 0 4)), (4, .int (nI g)), (3, .int (ν.2)), (0, .ref (α 0 0 0)), (1, .ref (α 3 w 0)), (2, .int p2)]) hx hb dX8_garnish_74 hl (k := 1) rfl (nI_1 (i)) (by decide) rfl (fun ls hl => ?_)
        refine lv_goto (tgt := 25) hx hb dX8_garnish_77 (by decide) ?_
        have hst : goC no w p2 g S (i + 1) = ν := by unfold goC; rw [← eν]; exact if_neg (fun z => hj z.1)
        exact IH (i + 1, fb) _ _ _ (by dsimp only; omega) ⟨by dsimp only; omega, by show Rc y nw no nt wk (goC no w p2 g S (i + 1)).1 α fb; rw [hst]; exact hR⟩ hw (by rw [show (goC no w p2 g S (i + 1, fb).1).2 = ν.2 from congrArg Prod.snd hst]; exact lv_sub hl [0, 2, 3, 4, 5, 6, 7, 8] rfl)
