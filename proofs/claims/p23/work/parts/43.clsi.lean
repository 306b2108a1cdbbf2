theorem nd6 {L : List Nat} (h : L.Nodup) {i j : Nat} (hi : i < L.length) (hj : j < L.length) (e : L.getD i 0 = L.getD j 0) : i = j := by
  rw [List.getD_eq_getElem?_getD, List.getD_eq_getElem?_getD, List.getElem?_eq_getElem hi, List.getElem?_eq_getElem hj] at e
  have e : L[i] = L[j] := e
  have hp := List.pairwise_iff_getElem.mp h
  rcases Nat.lt_trichotomy i j with z | z | z
  · exact absurd e (hp i j hi hj z)
  · exact z
  · exact absurd e.symm (hp j i hj hi z)
theorem Rc.newW6 {y : Nat → ClassId} {nw no nt wk : Nat} {κ : cS} {α : Nat → Nat → Nat → Nat} {f : fw_F} (h : Rc y nw no nt wk κ α f) {e : Nat} {f1 : fw_F} {h0 q v t sh sl : Nat} (he : e < 3) (h8 : nw ≤ 8) (h9 : ∀ o, o < no → ∃ w, w < nw ∧ κ 15 o 0 = nI w)
    (n0 : f h0 = none) (n1 : f q = none) (n2 : f v = none) (n3 : f t = none) (n4 : f sh = none) (n5 : f sl = none) (hd : [h0, q, v, t, sh, sl].Nodup)
    (c0 : f1 h0 = some (.inr (7, [.ref (α 1 e 0), .ref q, .int 0, .int 0, .int 0, .int 0, .ref sh, .ref sl]))) (c1 : f1 q = some (.inr (3, [.ref v, .ref t]))) (c2 : f1 v = some (.inl (y 0, 31, .inl (fillv 0 31)))) (c3 : f1 t = some (.inl (y 1, 31, .inl (fun _ => 0)))) (c4 : f1 sh = some (.inl (y 5, 20, .inr (.inr (.inr (.inr (fun _ => none))))))) (c5 : f1 sl = some (.inl (y 6, 31, .inr (.inr (.inr (.inr (fun _ => none)))))))
    (ho : ∀ b, b ≠ h0 → b ≠ q → b ≠ v → b ≠ t → b ≠ sh → b ≠ sl → f1 b = f b) :
    ∃ α2 : Nat → Nat → Nat → Nat, (∀ k i j, k ≠ 3 → α2 k i j = α k i j) ∧ Rc y (nw + 1) no nt wk (nwK κ nw e) α2 (fw_up (fw_up f1 (α 0 0 3) (.inl (y 8, 8, .inr (.inr (.inr (.inr (va_up (fun e => if e < nw then some (α 3 e 0) else none) nw (some h0)))))))) (α 0 0 0) (xCell y (nw + 1) no nt wk (κ 0 0 0) α)) := by
  refine ⟨aW α nw (fun j => [h0, q, v, t, sh, sl].getD j 0), fun _ _ _ hk => aW_k hk, ?_⟩
  refine h.newW (Q := fun j => [h0, q, v, t, sh, sl].getD j 0) he h8 h9 ?_ (fun i j hi hj z => nd6 hd hi hj z) ?_ (fun b hb => ho b (hb 0 (by decide)) (hb 1 (by decide)) (hb 2 (by decide)) (hb 3 (by decide)) (hb 4 (by decide)) (hb 5 (by decide)))
  · intro j hj
    match j with
    | 0 => exact n0
    | 1 => exact n1
    | 2 => exact n2
    | 3 => exact n3
    | 4 => exact n4
    | 5 => exact n5
    | j + 6 => omega
  · intro j x hx
    match j with
    | 0 => exact c0.trans hx
    | 1 => exact c1.trans hx
    | 2 => exact c2.trans hx
    | 3 => exact c3.trans hx
    | 4 => exact c4.trans hx
    | 5 => exact c5.trans hx
    | j + 6 => exact nomatch hx
theorem iX8_addWorker_7 : ∀ w ∈ wsX70, w ∈ wsX8_addWorker := by decide +kernel
theorem iX8_addWorker_8 : ∀ w ∈ wsX80, w ∈ wsX8_addWorker := by decide +kernel
set_option maxHeartbeats 4000000 in
set_option maxRecDepth 100000 in
/-- addWorker -/
theorem c_X8_addWorker (l : Launch) (D : va_G) (A : Nat → Prop) (y : Nat → ClassId) (sa : Nat → Nat) (f : fw_F) (hfl : l.stackTraces = false) (α : Nat → Nat → Nat → Nat) (κ : cS) (nw no nt wk : Nat) (p0 : Int32) (hI : Ic nw no nt wk κ) (hR : Rc y nw no nt wk κ α f) : vx_Met l yX8_addWorker wsX8_addWorker ({ frames := 7, cells := 7, slots := 131, locals := 110 } : Room) (cPc D A y sa f [.ref (α 0 0 0), .int p0]) (cQi D A (fun r f1 => ∃ ev α2, ev < 3 ∧ p0 = nI ev ∧ nw < 8 ∧ r = nI nw ∧ α2 0 0 0 = α 0 0 0 ∧ Rc y (nw + 1) no nt wk (nwK κ nw ev) α2 f1)) (cX D A f (fun E => (E = nIOB ∧ ¬ inr p0 0 2) ∨ (E = nISE ∧ inr p0 0 2 ∧ nw = 8))) 7 131 A := by
  refine fw_xmet (by decide) rfl [.ref (α 0 0 0), .int p0] (Nat.le_of_ble_eq_true rfl) ?_
  intro p e s m args below meth c ls I htab hE hw hl
  obtain ⟨hx, hb, hr, hts, hown, hlocks, hml⟩ := I
  have hown : s.vm.findClass RX8 = some m.cls := hown
  have hl : lv_has ls 3 [(0, .ref (α 0 0 0)), (1, .int p0)] := hl
  obtain ⟨hI1, hI2, hI3, hI4, hI5, hI6, hI7, hI8, hI9, hI10⟩ := id hI
  refine lv_aload_n hx hb dX8_addWorker_0 rfl (lv_at hl 0 rfl) ?_
  refine lv_iload_n hx hb dX8_addWorker_1 rfl (lv_at hl 1 rfl) ?_
  refine fw_tVq hx hb hml hown hts hE hw htab hlocks [.int p0] [] (c_X8_potOf l D A y sa f hfl α κ nw no nt wk p0 hR) (cwV 1 hts gX8_addWorker_X8_potOf rfl rfl rfl (by decide +kernel) ⟨Nat.le_of_ble_eq_true rfl, Nat.le_of_ble_eq_true rfl⟩) (ci := 8) rfl rfl hR.x rfl hl.1 rfl (Nat.le_of_ble_eq_true rfl) dX8_addWorker_2 ⟨Nat.le_of_ble_eq_true rfl, Nat.le_of_ble_eq_true rfl⟩ (fun E h => Or.inl h) (Nat.le_of_ble_eq_true rfl) (Nat.le_of_ble_eq_true rfl) (fun r1 f2 H locs hp3 hw => ?_)
  obtain ⟨ev, hev, rfl, hp3a, hp3b⟩ := hp3
  rw [hp3b] at hw
  rw [hp3a]
  refine lv_astore_n (lv' := [(2, .ref (α 1 ev 0)), (0, .ref (α 0 0 0)), (1, .int (nI ev))]) hx hb dX8_addWorker_5 rfl hl (by decide) rfl (fun ls hl => ?_)
  refine lv_aload_n hx hb dX8_addWorker_6 rfl (lv_at hl 1 rfl) ?_
  refine fw_get hx hb hts hown hE.1.1 hw (ci := 8) (fs := [.ref (α 0 0 1), .ref (α 0 0 2), .ref (α 0 0 3), .ref (α 0 0 4), .ref (α 0 0 5), .int (nI nw), .int (nI no), .int (nI nt), .int (κ 0 0 0), .int (nI wk)]) (v := .int (nI nw)) hR.x iX8_addWorker_8 rfl 5 (by decide) rfl (by decide +kernel) dX8_addWorker_7 ?_
  refine lv_if_lt (tgt := 25) hx hb dX8_addWorker_10 (by decide) (fun c_4 => ?_) (fun c_4 => ?_)
  · exact absurd c_4 (Int32.not_lt.mpr (nI_pos' (by omega)))
  · refine lv_aload_n hx hb dX8_addWorker_13 rfl (lv_at hl 1 rfl) ?_
    refine fw_get hx hb hts hown hE.1.1 hw (ci := 8) (fs := [.ref (α 0 0 1), .ref (α 0 0 2), .ref (α 0 0 3), .ref (α 0 0 4), .ref (α 0 0 5), .int (nI nw), .int (nI no), .int (nI nt), .int (κ 0 0 0), .int (nI wk)]) (v := .int (nI nw)) hR.x iX8_addWorker_8 rfl 5 (by decide) rfl (by decide +kernel) dX8_addWorker_14 ?_
    refine lv_aload_n hx hb dX8_addWorker_17 rfl (lv_at hl 1 rfl) ?_
    refine fw_get hx hb hts hown hE.1.1 hw (ci := 8) (fs := [.ref (α 0 0 1), .ref (α 0 0 2), .ref (α 0 0 3), .ref (α 0 0 4), .ref (α 0 0 5), .int (nI nw), .int (nI no), .int (nI nt), .int (κ 0 0 0), .int (nI wk)]) (v := .ref (α 0 0 3)) hR.x iX8_addWorker_8 rfl 2 (by decide) rfl (by decide +kernel) dX8_addWorker_18 ?_
    refine fw_alen hx hb hE.1.1 hw hR.x3 8 rfl (v := 8) rfl dX8_addWorker_21 ?_
    refine lv_icmp_lt (tgt := 35) hx hb dX8_addWorker_22 (by decide) (fun c_5 => ?_) (fun c_5 => ?_)
    · have hroom : nw < 8 := nI_ltr (n := 8) c_5 (by omega) (by decide)
      refine lv_aload_n hx hb dX8_addWorker_35 rfl (lv_at hl 1 rfl) ?_
      refine fw_get hx hb hts hown hE.1.1 hw (ci := 8) (fs := [.ref (α 0 0 1), .ref (α 0 0 2), .ref (α 0 0 3), .ref (α 0 0 4), .ref (α 0 0 5), .int (nI nw), .int (nI no), .int (nI nt), .int (κ 0 0 0), .int (nI wk)]) (v := .ref (α 0 0 3)) hR.x iX8_addWorker_8 rfl 2 (by decide) rfl (by decide +kernel) dX8_addWorker_36 ?_
      refine lv_aload_n hx hb dX8_addWorker_39 rfl (lv_at hl 1 rfl) ?_
      refine fw_get hx hb hts hown hE.1.1 hw (ci := 8) (fs := [.ref (α 0 0 1), .ref (α 0 0 2), .ref (α 0 0 3), .ref (α 0 0 4), .ref (α 0 0 5), .int (nI nw), .int (nI no), .int (nI nt), .int (κ 0 0 0), .int (nI wk)]) (v := .int (nI nw)) hR.x iX8_addWorker_8 rfl 5 (by decide) rfl (by decide +kernel) dX8_addWorker_40 ?_
      refine fw_new hx hb hts hown hE.1.1 hw hE.2.1 (ci := 7) (C := RX7) (T := TX7) (N := 8) (fs := [.null, .null, .int 0, .int 0, .int 0, .int 0, .null, .null]) iX8_addWorker_7 tyX7 tyX7_ok (by decide +kernel) (by decide +kernel) (by decide +kernel) rfl (fun j hj => by rcases (show j = 0 ∨ j = 1 ∨ j = 2 ∨ j = 3 ∨ j = 4 ∨ j = 5 ∨ j = 6 ∨ j = 7 by omega) with rfl | rfl | rfl | rfl | rfl | rfl | rfl | rfl <;> rfl) (Nat.le_of_ble_eq_true rfl) (Nat.le_of_ble_eq_true rfl) dX8_addWorker_43 (fun q6 H hnq6 hw => ?_)
      have hbq6 : f q6 = none := hnq6
      have n7 : (α 0 0 0) ≠ q6 := fun z => absurd (hR.x.symm.trans ((congrArg f z).trans hnq6)) (by simp)
      have n8 : (α 0 0 3) ≠ q6 := fun z => absurd (hR.x3.symm.trans ((congrArg f z).trans hnq6)) (by simp)
      obtain ⟨f9, ef9⟩ : ∃ z, z = fw_up f q6 (.inr (7, [.null, .null, .int 0, .int 0, .int 0, .int 0, .null, .null])) := ⟨_, rfl⟩
      have hw : fw_S D A s.heap f9 H locs := by rw [ef9]; exact hw
      have h10 : f9 (α 0 0 0) = some (.inr (8, [.ref (α 0 0 1), .ref (α 0 0 2), .ref (α 0 0 3), .ref (α 0 0 4), .ref (α 0 0 5), .int (nI nw), .int (nI no), .int (nI nt), .int (κ 0 0 0), .int (nI wk)])) := by rw [ef9]; exact (fw_up_n n7).trans hR.x
      have h11 : f9 (α 0 0 3) = some (.inl (y 8, 8, .inr (.inr (.inr (.inr (fun e => if e < nw then some (α 3 e 0) else none)))))) := by rw [ef9]; exact (fw_up_n n8).trans hR.x3
      have h12 : f9 q6 = some (.inr (7, [.null, .null, .int 0, .int 0, .int 0, .int 0, .null, .null])) := by rw [ef9]; exact fw_up_s
      refine lv_dup hx hb dX8_addWorker_46 rfl ?_
      refine lv_aload_n hx hb dX8_addWorker_47 rfl (lv_at hl 0 rfl) ?_
      refine fw_callIv hx hb hml hown hts hE hw [.ref (α 1 ev 0)] [.ref q6, .int (nI nw), .ref (α 0 0 3)] (c_X7_init l D A y sa f9 q6 (α 1 ev 0) h12) (cwI 1 hts gX8_addWorker_X7_init rfl rfl rfl (hts (.initialized RX7) (by decide +kernel)) (hts (.methodLink RX8 68 yX7_init) (by decide +kernel)) (hts (.instanceMethod yX7_init) (by decide +kernel)) rfl (by decide +kernel) ⟨Nat.le_of_ble_eq_true rfl, Nat.le_of_ble_eq_true rfl⟩) rfl hl.1 rfl (Nat.le_of_ble_eq_true rfl) dX8_addWorker_48 ⟨Nat.le_of_ble_eq_true rfl, Nat.le_of_ble_eq_true rfl⟩ (fun f14 H locs hp15 hw => ?_)
      obtain ⟨qr, qv, qt, qs, ql, nr, nv, nt9, ns, nl, hnd, c0, c1, c2, c3, c4, c5, ho⟩ := hp15
      have hnd6 : [q6, qr, qv, qt, qs, ql].Nodup := List.nodup_cons.mpr ⟨by simp only [List.mem_cons, List.not_mem_nil, or_false, not_or]; exact ⟨fw_ne h12 nr, fw_ne h12 nv, fw_ne h12 nt9, fw_ne h12 ns, fw_ne h12 nl⟩, hnd⟩
      have ho2 : ∀ b, b ≠ q6 → b ≠ qr → b ≠ qv → b ≠ qt → b ≠ qs → b ≠ ql → f14 b = f b := fun b z0 z1 z2 z3 z4 z5 => (ho b z0 z1 z2 z3 z4 z5).trans (by rw [ef9]; exact fw_up_n z0)
      obtain ⟨α2, hα2, hZ⟩ := hR.newW6 hev (by omega) hI9 hbq6 (by have z9 := nr; rw [ef9] at z9; exact fw_up_o z9) (by have z9 := nv; rw [ef9] at z9; exact fw_up_o z9) (by have z9 := nt9; rw [ef9] at z9; exact fw_up_o z9) (by have z9 := ns; rw [ef9] at z9; exact fw_up_o z9) (by have z9 := nl; rw [ef9] at z9; exact fw_up_o z9) hnd6 c0 c1 c2 c3 c4 c5 ho2
      have h16 : f14 (α 0 0 0) = some (.inr (8, [.ref (α 0 0 1), .ref (α 0 0 2), .ref (α 0 0 3), .ref (α 0 0 4), .ref (α 0 0 5), .int (nI nw), .int (nI no), .int (nI nt), .int (κ 0 0 0), .int (nI wk)])) := (ho (α 0 0 0) n7 (fw_ne h10 nr) (fw_ne h10 nv) (fw_ne h10 nt9) (fw_ne h10 ns) (fw_ne h10 nl)).trans h10
      have h17 : f14 (α 0 0 3) = some (.inl (y 8, 8, .inr (.inr (.inr (.inr (fun e => if e < nw then some (α 3 e 0) else none)))))) := (ho (α 0 0 3) n8 (fw_ne h11 nr) (fw_ne h11 nv) (fw_ne h11 nt9) (fw_ne h11 ns) (fw_ne h11 nl)).trans h11
      refine fw_aast (r := (RX7, TX7, 8)) hx hb hE.1.1 hw (g := (fun e => if e < nw then some (α 3 e 0) else none)) h17 8 rfl c0 rfl (vp_in_nI (by omega) (by decide)) dX8_addWorker_51 (fun H locs hw => ?_)
      rw [nI_clamp (n := nw) (by omega)] at hw
      obtain ⟨f18, ef18⟩ : ∃ z, z = fw_up f14 (α 0 0 3) (.inl (y 8, 8, .inr (.inr (.inr (.inr (va_up (fun e => if e < nw then some (α 3 e 0) else none) nw (some q6))))))) := ⟨_, rfl⟩
      have hw : fw_S D A s.heap f18 H locs := by rw [ef18]; exact hw
      have h19 : f18 (α 0 0 0) = some (.inr (8, [.ref (α 0 0 1), .ref (α 0 0 2), .ref (α 0 0 3), .ref (α 0 0 4), .ref (α 0 0 5), .int (nI nw), .int (nI no), .int (nI nt), .int (κ 0 0 0), .int (nI wk)])) := by rw [ef18]; exact (fw_up_n (fw_ne2 h16 h17 (by simp))).trans h16
      have h20 : f18 q6 = some (.inr (7, [.ref (α 1 ev 0), .ref qr, .int 0, .int 0, .int 0, .int 0, .ref qs, .ref ql])) := by rw [ef18]; exact (fw_up_n (Ne.symm n8)).trans c0
      have h21 : f18 (α 0 0 3) = some (.inl (y 8, 8, .inr (.inr (.inr (.inr (va_up (fun e => if e < nw then some (α 3 e 0) else none) nw (some q6))))))) := by rw [ef18]; exact fw_up_s
      refine lv_aload_n hx hb dX8_addWorker_52 rfl (lv_at hl 1 rfl) ?_
      refine lv_dup hx hb dX8_addWorker_53 rfl ?_
      refine fw_get hx hb hts hown hE.1.1 hw (ci := 8) (fs := [.ref (α 0 0 1), .ref (α 0 0 2), .ref (α 0 0 3), .ref (α 0 0 4), .ref (α 0 0 5), .int (nI nw), .int (nI no), .int (nI nt), .int (κ 0 0 0), .int (nI wk)]) (v := .int (nI nw)) h19 iX8_addWorker_8 rfl 5 (by decide) rfl (by decide +kernel) dX8_addWorker_54 ?_
      refine lv_dup_x1 hx hb dX8_addWorker_57 rfl rfl ?_
      refine lv_iconst (v := 1) hx hb dX8_addWorker_58 (by decide) ?_
      refine lv_iadd hx hb dX8_addWorker_59 ?_
      refine fw_put hx hb hts hown hE.1.1 hw (ci := 8) (fs := [.ref (α 0 0 1), .ref (α 0 0 2), .ref (α 0 0 3), .ref (α 0 0 4), .ref (α 0 0 5), .int (nI nw), .int (nI no), .int (nI nt), .int (κ 0 0 0), .int (nI wk)]) (v := .int ((nI nw) + 1)) h19 iX8_addWorker_8 tyX8 tyX8_ok nmX8 rfl 5 (by decide) rfl rfl rfl (Nat.le_of_ble_eq_true rfl) (by decide +kernel) dX8_addWorker_60 (fun H locs hw => ?_)
      obtain ⟨f22, ef22⟩ : ∃ z, z = fw_up f18 (α 0 0 0) (.inr (8, [.ref (α 0 0 1), .ref (α 0 0 2), .ref (α 0 0 3), .ref (α 0 0 4), .ref (α 0 0 5), .int ((nI nw) + 1), .int (nI no), .int (nI nt), .int (κ 0 0 0), .int (nI wk)])) := ⟨_, rfl⟩
      have hw : fw_S D A s.heap f22 H locs := by rw [ef22]; exact hw
      have h23 : f22 q6 = some (.inr (7, [.ref (α 1 ev 0), .ref qr, .int 0, .int 0, .int 0, .int 0, .ref qs, .ref ql])) := by rw [ef22]; exact (fw_up_n (Ne.symm n7)).trans h20
      have h24 : f22 (α 0 0 3) = some (.inl (y 8, 8, .inr (.inr (.inr (.inr (va_up (fun e => if e < nw then some (α 3 e 0) else none) nw (some q6))))))) := by rw [ef22]; exact (fw_up_n (fw_ne2 h21 h19 (by simp))).trans h21
      have h25 : f22 (α 0 0 0) = some (.inr (8, [.ref (α 0 0 1), .ref (α 0 0 2), .ref (α 0 0 3), .ref (α 0 0 4), .ref (α 0 0 5), .int ((nI nw) + 1), .int (nI no), .int (nI nt), .int (κ 0 0 0), .int (nI wk)])) := by rw [ef22]; exact fw_up_s
      exact vx_ret (fw_iret hx hb hr hlocks hw (Nat.le_of_ble_eq_true rfl) (Nat.le_of_ble_eq_true rfl) dX8_addWorker_63 (⟨ev, α2, hev, rfl, hroom, rfl, hα2 0 0 0 (by decide), by rw [ef22, ef18, nI_1]; exact hZ⟩))
    · have hfull : nw = 8 := Nat.le_antisymm (by omega) (nI_gx (n := 8) c_5 (by omega) (by decide))
      exact fw_throw (ic := 65) (ik := 61) (is := 63) (cls := nISE) (text := "no more workers") hx hb hfl hts hown hE hw htab hlocks thISE (fun w h => List.mem_cons_of_mem _ (List.mem_append_left _ (List.mem_append_right _ h))) (by decide +kernel) (by decide +kernel) (by decide +kernel) (hl.1.trans hml.symm) dX8_addWorker_25 dX8_addWorker_28 dX8_addWorker_29 dX8_addWorker_31 dX8_addWorker_34 (Nat.le_of_ble_eq_true rfl) (Nat.le_of_ble_eq_true rfl) (Nat.le_of_ble_eq_true rfl) (Nat.le_of_ble_eq_true rfl) (Or.inr ⟨rfl, inr_nI (n := 2) (by omega) (by decide), hfull⟩) (Nat.le_of_ble_eq_true rfl) (Nat.le_of_ble_eq_true rfl)
