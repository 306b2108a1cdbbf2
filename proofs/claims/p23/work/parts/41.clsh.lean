def csC (κ : cS) (nw no wk : Nat) : Nat → cS × Int32
  | 0 => (κ, 0)
  | i + 1 => if i < nw then (stC (csC κ nw no wk i).1 no wk i, (csC κ nw no wk i).2 + snC (csC κ nw no wk i).1 wk i) else csC κ nw no wk i
theorem oK_pgC {κ : cS} {no w ev : Nat} {g : Int32} : oK (pyK κ w ev g) (pgC κ no w ev g).1 := oK_gaC (S := (pyK κ w ev g, 0)) (oK.refl _) 3
theorem Ic_payK {nw no nt wk w ev : Nat} {κ : cS} {g : Int32} (h : Ic nw no nt wk κ) : Ic nw no nt wk (payK κ no wk w ev g) := by
  have h2 : Ic nw no nt wk (pgC κ no w ev g).1 := (Ic.pyK h).oK oK_pgC
  unfold payK
  exact h2.of (fun i => by rw [slK_4]) (fun i => by rw [slK_4]) slK_7 slK_5 (fun o => by rw [slK_15]) slK_16
theorem stC_10 {κ : cS} {no wk w i : Nat} (h : i ≠ w) : stC κ no wk w 10 i = κ 10 i := by
  unfold stC
  by_cases z : clC κ wk w < 0
  · rw [if_pos z]
    exact upF_k (by decide)
  · rw [if_neg z]
    by_cases z2 : ¬ clC κ wk w = 0 ∧ ¬ κ 1 (evC κ w) 0 < clC κ wk w
    · rw [if_pos z2]
      unfold payK
      rw [slK_i h, oK_pgC.1 10 (by decide), pyK_k (by decide) (by decide)]
    · rw [if_neg z2]
theorem Ic_stC2 {nw no nt wk w : Nat} {κ : cS} (h : Ic nw no nt wk κ) : Ic nw no nt wk (stC κ no wk w) := by
  unfold stC
  by_cases z : clC κ wk w < 0
  · rw [if_pos z]
    refine h.of (fun i => ?_) (fun i => ?_) (funext fun _ => upF_k (by decide)) (funext fun _ => upF_k (by decide)) (fun o => by rw [upF_k (by decide)]) (funext fun _ => upF_k (by decide))
    · by_cases z : i = w
      · subst z
        rw [upF_s, va_up_n (by decide), va_up_n (by decide), va_up_n (by decide)]
      · rw [upF_i z]
    · by_cases z : i = w
      · subst z
        rw [upF_s, va_up_n (by decide), va_up_n (by decide), va_up_n (by decide)]
      · rw [upF_i z]
  · rw [if_neg z]
    by_cases z2 : ¬ clC κ wk w = 0 ∧ ¬ κ 1 (evC κ w) 0 < clC κ wk w
    · rw [if_pos z2]
      exact Ic_payK h
    · rw [if_neg z2]
      exact h
theorem csC_ok {κ : cS} {nw no nt wk : Nat} (h : Ic nw no nt wk κ) : ∀ i, Ic nw no nt wk (csC κ nw no wk i).1 ∧ ∀ w, i ≤ w → (csC κ nw no wk i).1 10 w = κ 10 w
  | 0 => ⟨h, fun _ _ => rfl⟩
  | i + 1 => by
    obtain ⟨h1, h2⟩ := csC_ok h i
    unfold csC
    by_cases z : i < nw
    · rw [if_pos z]
      exact ⟨Ic_stC2 h1, fun w hw => (stC_10 (by omega)).trans (h2 w (by omega))⟩
    · rw [if_neg z]
      exact ⟨h1, fun w hw => h2 w (by omega)⟩
theorem snC_01 {κ : cS} {wk w : Nat} : snC κ wk w = 0 ∨ snC κ wk w = 1 := by
  unfold snC
  by_cases z : clC κ wk w < 0
  · rw [if_pos z]; exact Or.inl rfl
  · rw [if_neg z]
    by_cases z2 : ¬ clC κ wk w = 0 ∧ ¬ κ 1 (evC κ w) 0 < clC κ wk w
    · rw [if_pos z2]; exact Or.inr rfl
    · rw [if_neg z2]; exact Or.inl rfl
theorem iX8_close_8 : ∀ w ∈ wsX80, w ∈ wsX8_close := by decide +kernel
set_option maxHeartbeats 4000000 in
set_option maxRecDepth 100000 in
/-- close -/
theorem c_X8_close (l : Launch) (D : va_G) (A : Nat → Prop) (y : Nat → ClassId) (sa : Nat → Nat) (f : fw_F) (hfl : l.stackTraces = false) (α : Nat → Nat → Nat → Nat) (κ : cS) (nw no nt wk : Nat) (hno10 : wk < 31 → ∀ w, w < nw → ¬ κ 10 w wk = 1) (hI : Ic nw no nt wk κ) (hR : Rc y nw no nt wk κ α f) : vx_Met l yX8_close wsX8_close ({ frames := 6, cells := 8, slots := 32, locals := 123 } : Room) (cPc D A y sa f [.ref (α 0 0 0)]) (cQi D A (fun r f1 => wk < 31 ∧ r = (csC κ nw no wk 8).2 ∧ ∃ α2, α2 0 0 0 = α 0 0 0 ∧ Rc y nw no nt (wk + 1) (csC κ nw no wk 8).1 α2 f1)) (cX D A f (fun E => E = nISE ∧ wk = 31)) 8 32 A := by
  refine fw_xmet (by decide) rfl [.ref (α 0 0 0)] (Nat.le_of_ble_eq_true rfl) ?_
  intro p e s m args below meth c ls I htab hE hw hl
  obtain ⟨hx, hb, hr, hts, hown, hlocks, hml⟩ := I
  have hown : s.vm.findClass RX8 = some m.cls := hown
  have hl : lv_has ls 6 [(0, .ref (α 0 0 0))] := hl
  obtain ⟨hI1, hI2, hI3, hI4, hI5, hI6, hI7, hI8, hI9, hI10⟩ := id hI
  refine lv_aload_n hx hb dX8_close_0 rfl (lv_at hl 0 rfl) ?_
  refine fw_get hx hb hts hown hE.1.1 hw (ci := 8) (fs := [.ref (α 0 0 1), .ref (α 0 0 2), .ref (α 0 0 3), .ref (α 0 0 4), .ref (α 0 0 5), .int (nI nw), .int (nI no), .int (nI nt), .int (κ 0 0 0), .int (nI wk)]) (v := .int (nI wk)) hR.x iX8_close_8 rfl 9 (by decide) rfl (by decide +kernel) dX8_close_1 ?_
  refine lv_bipush (v := 31) hx hb dX8_close_4 (by decide) ?_
  refine lv_icmp_lt (tgt := 19) hx hb dX8_close_6 (by decide) (fun c_1 => ?_) (fun c_1 => ?_)
  · have hk31 : wk < 31 := nI_ltr (n := 31) c_1 (by omega) (by decide)
    refine lv_iconst (v := 0) hx hb dX8_close_19 (by decide) ?_
    refine lv_istore_n (lv' := [(1, .int 0), (0, .ref (α 0 0 0))]) hx hb dX8_close_20 rfl hl (by decide) rfl (fun ls hl => ?_)
    refine lv_aload_n hx hb dX8_close_21 rfl (lv_at hl 1 rfl) ?_
    refine fw_get hx hb hts hown hE.1.1 hw (ci := 8) (fs := [.ref (α 0 0 1), .ref (α 0 0 2), .ref (α 0 0 3), .ref (α 0 0 4), .ref (α 0 0 5), .int (nI nw), .int (nI no), .int (nI nt), .int (κ 0 0 0), .int (nI wk)]) (v := .ref (α 0 0 3)) hR.x iX8_close_8 rfl 2 (by decide) rfl (by decide +kernel) dX8_close_22 ?_
    refine lv_astore_n (lv' := [(2, .ref (α 0 0 3)), (1, .int 0), (0, .ref (α 0 0 0))]) hx hb dX8_close_25 rfl hl (by decide) rfl (fun ls hl => ?_)
    refine lv_aload_n hx hb dX8_close_26 rfl (lv_at hl 0 rfl) ?_
    refine fw_alen hx hb hE.1.1 hw hR.x3 8 rfl (v := 8) rfl dX8_close_27 ?_
    refine lv_istore_n (lv' := [(3, .int 8), (2, .ref (α 0 0 3)), (1, .int 0), (0, .ref (α 0 0 0))]) hx hb dX8_close_28 rfl hl (by decide) rfl (fun ls hl => ?_)
    refine lv_iconst (v := 0) hx hb dX8_close_29 (by decide) ?_
    refine lv_istore (lv' := [(4, .int 0), (3, .int 8), (2, .ref (α 0 0 3)), (1, .int 0), (0, .ref (α 0 0 0))]) hx hb dX8_close_30 hl (by decide) rfl (fun ls hl => ?_)
    refine fw_loop 32 6 (fun r : Nat × (Nat → Nat → Nat → Nat) × fw_F => 8 - r.1) (fun r => r.1 ≤ 8 ∧ (∀ k i j, k < 4 → r.2.1 k i j = α k i j) ∧ Rc y nw no nt wk (csC κ nw no wk r.1).1 r.2.1 r.2.2) (fun r => r.2.2) (fun r => [(4, .int (nI r.1)), (1, .int (csC κ nw no wk r.1).2), (2, .ref (r.2.1 0 0 3)), (3, .int 8), (0, .ref (r.2.1 0 0 0))]) (fun r => []) (fun r => r.1) (fun r => 4 * r.1) (fun r H locs ls hP hw hl IH => ?_) (0, α, f) s.heap [] ls ⟨by omega, fun _ _ _ _ => rfl, hR⟩ hw (lv_sub hl [0, 3, 2, 1, 4] rfl)
    obtain ⟨i, αc, fa⟩ := r
    obtain ⟨hP1, hα, hR⟩ := hP
    skip
    try dsimp only at hw
    try dsimp only at hl
    try dsimp only at IH
    try dsimp only at ⊢
    dsimp only at hP1 hα hR
    obtain ⟨hJ, hJ10⟩ := csC_ok (no := no) hI i
    obtain ⟨ν, eν⟩ : ∃ z, z = (csC κ nw no wk i) := ⟨_, rfl⟩
    rw [← eν] at hR hl hJ hJ10
    refine lv_iload hx hb dX8_close_32 (lv_at hl 0 rfl) ?_
    refine lv_iload_n hx hb dX8_close_34 rfl (lv_at hl 3 rfl) ?_
    refine lv_icmp_ge (tgt := 67) hx hb dX8_close_35 (by decide) (fun c_2 => ?_) (fun c_2 => ?_)
    · have hi8 : i = 8 := nI_eqn (n := 8) c_2 hP1 (by decide)
      refine lv_aload_n hx hb dX8_close_67 rfl (lv_at hl 4 rfl) ?_
      refine lv_dup hx hb dX8_close_68 rfl ?_
      refine fw_get hx hb hts hown hE.1.1 hw (ci := 8) (fs := [.ref (αc 0 0 1), .ref (αc 0 0 2), .ref (αc 0 0 3), .ref (αc 0 0 4), .ref (αc 0 0 5), .int (nI nw), .int (nI no), .int (nI nt), .int (ν.1 0 0 0), .int (nI wk)]) (v := .int (nI wk)) hR.x iX8_close_8 rfl 9 (by decide) rfl (by decide +kernel) dX8_close_69 ?_
      refine lv_iconst (v := 1) hx hb dX8_close_72 (by decide) ?_
      refine lv_iadd hx hb dX8_close_73 ?_
      refine fw_put hx hb hts hown hE.1.1 hw (ci := 8) (fs := [.ref (αc 0 0 1), .ref (αc 0 0 2), .ref (αc 0 0 3), .ref (αc 0 0 4), .ref (αc 0 0 5), .int (nI nw), .int (nI no), .int (nI nt), .int (ν.1 0 0 0), .int (nI wk)]) (v := .int ((nI wk) + 1)) hR.x iX8_close_8 tyX8 tyX8_ok nmX8 rfl 9 (by decide) rfl rfl rfl (Nat.le_of_ble_eq_true rfl) (by decide +kernel) dX8_close_74 (fun H locs hw => ?_)
      obtain ⟨f3, ef3⟩ : ∃ z, z = fw_up fa (αc 0 0 0) (.inr (8, [.ref (αc 0 0 1), .ref (αc 0 0 2), .ref (αc 0 0 3), .ref (αc 0 0 4), .ref (αc 0 0 5), .int (nI nw), .int (nI no), .int (nI nt), .int (ν.1 0 0 0), .int ((nI wk) + 1)])) := ⟨_, rfl⟩
      have hw : fw_S D A s.heap f3 H locs := by rw [ef3]; exact hw
      have h4 : f3 (αc 0 0 0) = some (.inr (8, [.ref (αc 0 0 1), .ref (αc 0 0 2), .ref (αc 0 0 3), .ref (αc 0 0 4), .ref (αc 0 0 5), .int (nI nw), .int (nI no), .int (nI nt), .int (ν.1 0 0 0), .int ((nI wk) + 1)])) := by rw [ef3]; exact fw_up_s
      refine lv_iload_n hx hb dX8_close_77 rfl (lv_at hl 1 rfl) ?_
      exact vx_ret (fw_iret hx hb hr hlocks hw (show i ≤ 8 by omega) (show 4 * i ≤ 32 by omega) dX8_close_78 (⟨hk31, by rw [← hi8, ← eν], αc, hα 0 0 0 (by decide), by rw [← hi8, ← eν, ef3, nI_1]; exact hR.setWk (wk + 1)⟩))
    · have hi8 : i < 8 := nI_hi (n := 8) c_2 (by omega)
      refine lv_aload_n hx hb dX8_close_38 rfl (lv_at hl 2 rfl) ?_
      refine lv_iload hx hb dX8_close_39 (lv_at hl 0 rfl) ?_
      refine fw_aald hx hb hE.1.1 hw (g := (fun e => if e < nw then some (αc 3 e 0) else none)) hR.x3 8 rfl (vp_in_nI (by omega) (by decide)) dX8_close_41 ?_
      rw [nI_clamp (n := i) (by omega)]
      by_cases hj : i < nw
      · rw [if_pos hj]
        refine lv_astore (lv' := [(5, .ref (αc 3 i 0)), (4, .int (nI i)), (1, .int (ν.2)), (2, .ref (αc 0 0 3)), (3, .int 8), (0, .ref (αc 0 0 0))]) hx hb dX8_close_42 hl (by decide) rfl (fun ls hl => ?_)
        refine lv_aload hx hb dX8_close_44 (lv_at hl 0 rfl) ?_
        refine lv_ifnull hx hb dX8_close_46 ?_
        refine lv_aload_n hx hb dX8_close_49 rfl (lv_at hl 5 rfl) ?_
        refine lv_aload hx hb dX8_close_50 (lv_at hl 0 rfl) ?_
        refine fw_callVi hx hb hml hown hts hE hw [.ref (αc 3 i 0)] [] (c_X8_settle l D A y sa fa αc ν.1 nw no nt wk i hj hk31 (by rw [hJ10 i (Nat.le_refl _)]; exact hno10 hk31 i hj) hJ hR) (cwV 1 hts gX8_close_X8_settle rfl rfl rfl (by decide +kernel) ⟨Nat.le_of_ble_eq_true rfl, Nat.le_of_ble_eq_true rfl⟩) (ci := 8) rfl rfl hR.x rfl hl.1 rfl (Nat.le_of_ble_eq_true rfl) dX8_close_52 ⟨show i + 1 ≤ 8 by omega, show 4 * i + 4 ≤ 32 by omega⟩ (fun r5 f6 H locs hp7 hw => ?_)
        obtain ⟨hp7a, α2, hα2, hR2⟩ := hp7
        rw [hp7a]
        refine lv_if_eq (tgt := 61) hx hb dX8_close_55 (by decide) (fun c_8 => ?_) (fun c_8 => ?_)
        · refine lv_iinc (v := (nI (i + 1))) (lv' := [(4, .int (nI (i + 1))), (5, .ref (αc 3 i 0)), (1, .int (ν.2)), (2, .ref (αc 0 0 3)), (3, .int 8), (0, .ref (αc 0 0 0))]) hx hb dX8_close_61 hl (k := 1) rfl (nI_1 (i)) (by decide) rfl (fun ls hl => ?_)
          refine lv_goto (tgt := 32) hx hb dX8_close_64 (by decide) ?_
          have hst : (csC κ nw no wk (i + 1)) = (stC ν.1 no wk i, ν.2 + snC ν.1 wk i) := by unfold csC; rw [← eν]; exact if_pos hj
          exact W.widen (Nat.le_refl _) (show 4 * i + 4 ≤ 4 * (i + 1) by omega) (IH (i + 1, α2, f6) _ _ _ (by dsimp only; omega) ⟨by dsimp only; omega, fun k i j hk => (hα2 k i j hk).trans (hα k i j hk), by show Rc y nw no nt wk (csC κ nw no wk (i + 1)).1 α2 _; rw [hst]; exact hR2⟩ hw (by rw [show (csC κ nw no wk (i + 1, α2, f6).1).2 = ν.2 + snC ν.1 wk i from congrArg Prod.snd hst, show ν.2 + snC ν.1 wk i = ν.2 by rw [c_8]; exact Int32.add_zero _, show (i + 1, α2, f6).2.1 0 0 3 = αc 0 0 3 from hα2 0 0 3 (by decide), show (i + 1, α2, f6).2.1 0 0 0 = αc 0 0 0 from hα2 0 0 0 (by decide)]; exact lv_sub hl [0, 2, 3, 4, 5] rfl))
        · refine lv_iinc (v := ((ν.2) + 1)) (lv' := [(1, .int ((ν.2) + 1)), (5, .ref (αc 3 i 0)), (4, .int (nI i)), (2, .ref (αc 0 0 3)), (3, .int 8), (0, .ref (αc 0 0 0))]) hx hb dX8_close_58 hl (k := 2) rfl rfl (by decide) rfl (fun ls hl => ?_)
          refine lv_iinc (v := (nI (i + 1))) (lv' := [(4, .int (nI (i + 1))), (1, .int ((ν.2) + 1)), (5, .ref (αc 3 i 0)), (2, .ref (αc 0 0 3)), (3, .int 8), (0, .ref (αc 0 0 0))]) hx hb dX8_close_61 hl (k := 2) rfl (nI_1 (i)) (by decide) rfl (fun ls hl => ?_)
          refine lv_goto (tgt := 32) hx hb dX8_close_64 (by decide) ?_
          have hst : (csC κ nw no wk (i + 1)) = (stC ν.1 no wk i, ν.2 + snC ν.1 wk i) := by unfold csC; rw [← eν]; exact if_pos hj
          exact W.widen (Nat.le_refl _) (show 4 * i + 4 ≤ 4 * (i + 1) by omega) (IH (i + 1, α2, f6) _ _ _ (by dsimp only; omega) ⟨by dsimp only; omega, fun k i j hk => (hα2 k i j hk).trans (hα k i j hk), by show Rc y nw no nt wk (csC κ nw no wk (i + 1)).1 α2 _; rw [hst]; exact hR2⟩ hw (by rw [show (csC κ nw no wk (i + 1, α2, f6).1).2 = ν.2 + snC ν.1 wk i from congrArg Prod.snd hst, show ν.2 + snC ν.1 wk i = ν.2 + 1 by rw [(snC_01 (κ := ν.1) (wk := wk) (w := i)).resolve_left c_8], show (i + 1, α2, f6).2.1 0 0 3 = αc 0 0 3 from hα2 0 0 3 (by decide), show (i + 1, α2, f6).2.1 0 0 0 = αc 0 0 0 from hα2 0 0 0 (by decide)]; exact lv_sub hl [0, 1, 3, 4, 5] rfl))
      · rw [if_neg hj]
        refine lv_astoreN (lv' := [(5, .null), (4, .int (nI i)), (1, .int (ν.2)), (2, .ref (αc 0 0 3)), (3, .int 8), (0, .ref (αc 0 0 0))]) hx hb dX8_close_42 hl (by decide) rfl (fun ls hl => ?_)
        refine lv_aloadN hx hb dX8_close_44 (lv_at hl 0 rfl) ?_
        refine lv_ifnullN (tgt := 61) hx hb dX8_close_46 (by decide) ?_
        refine lv_iinc (v := (nI (i + 1))) (lv' := [(4, .int (nI (i + 1))), (5, .null), (1, .int (ν.2)), (2, .ref (αc 0 0 3)), (3, .int 8), (0, .ref (αc 0 0 0))]) hx hb dX8_close_61 hl (k := 1) rfl (nI_1 (i)) (by decide) rfl (fun ls hl => ?_)
        refine lv_goto (tgt := 32) hx hb dX8_close_64 (by decide) ?_
        have hst : (csC κ nw no wk (i + 1)) = ν := by unfold csC; rw [← eν]; exact if_neg hj
        exact W.widen (Nat.le_succ i) (show 4 * i ≤ 4 * (i + 1) by omega) (IH (i + 1, αc, fa) _ _ _ (by dsimp only; omega) ⟨by dsimp only; omega, hα, by show Rc y nw no nt wk (csC κ nw no wk (i + 1)).1 αc fa; rw [hst]; exact hR⟩ hw (by rw [show (csC κ nw no wk (i + 1, αc, fa).1).2 = ν.2 from congrArg Prod.snd hst]; exact lv_sub hl [0, 2, 3, 4, 5] rfl))
  · have hfull : wk = 31 := Nat.le_antisymm (by omega) (nI_gx (n := 31) c_1 (by omega) (by decide))
    exact fw_throw (ic := 65) (ik := 61) (is := 182) (cls := nISE) (text := "all weeks are closed") hx hb hfl hts hown hE hw htab hlocks thISE (fun w h => List.mem_cons_of_mem _ (List.mem_append_right _ h)) (by decide +kernel) (by decide +kernel) (by decide +kernel) (hl.1.trans hml.symm) dX8_close_9 dX8_close_12 dX8_close_13 dX8_close_15 dX8_close_18 (Nat.le_of_ble_eq_true rfl) (Nat.le_of_ble_eq_true rfl) (Nat.le_of_ble_eq_true rfl) (Nat.le_of_ble_eq_true rfl) (⟨rfl, hfull⟩) (Nat.le_of_ble_eq_true rfl) (Nat.le_of_ble_eq_true rfl)
