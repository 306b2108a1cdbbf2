/-- the long[1] of the law at o -/
def oC (y : Nat → ClassId) (o : Nat) (gl : Nat → Int64) : fw_F := fun q => if q = o then some (.inl (y 9, 1, .inr (.inl gl))) else none
def oU (gl : Nat → Int64) (r : Int32) : Nat → Int64 := vp_updL gl (0 : Int32).toNatClampNeg r.toInt64
theorem oC_o {y : Nat → ClassId} {o : Nat} {gl : Nat → Int64} : oC y o gl o = some (.inl (y 9, 1, .inr (.inl gl))) := if_pos rfl
theorem oC_n {y : Nat → ClassId} {o q : Nat} {gl : Nat → Int64} (h : q ≠ o) : oC y o gl q = none := if_neg h
theorem dis_oC {y : Nat → ClassId} {o : Nat} {gl gl2 : Nat → Int64} {f : fw_F} (h : fw_dis f (oC y o gl)) : fw_dis f (oC y o gl2) := by
  intro q hq
  by_cases z : q = o
  · subst z
    exact absurd ((h q hq).symm.trans oC_o) (fun z => nomatch z)
  · exact oC_n z
theorem dis_oN {y : Nat → ClassId} {o : Nat} {gl : Nat → Int64} {f : fw_F} (h : fw_dis f (oC y o gl)) : f o = none := by
  cases hf : f o with
  | none => rfl
  | some e => exact absurd ((h o (by rw [hf]; exact fun z => nomatch z)).symm.trans oC_o) (fun z => nomatch z)
theorem or_o {y : Nat → ClassId} {o : Nat} {gl : Nat → Int64} {f : fw_F} (h : fw_dis f (oC y o gl)) : fw_or f (oC y o gl) o = some (.inl (y 9, 1, .inr (.inl gl))) := by
  rw [fw_or_n (dis_oN h)]
  exact oC_o
theorem or_oU {y : Nat → ClassId} {o : Nat} {gl gl2 : Nat → Int64} {f : fw_F} (h : fw_dis f (oC y o gl)) : fw_up (fw_or f (oC y o gl)) o (.inl (y 9, 1, .inr (.inl gl2))) = fw_or f (oC y o gl2) := by
  funext q
  by_cases z : q = o
  · rw [z, fw_up_s, or_o (dis_oC h)]
  · rw [fw_up_n z]
    unfold fw_or
    rw [oC_n z, oC_n z]
set_option maxHeartbeats 4000000 in
set_option maxRecDepth 100000 in
/-- the law: addWorker -/
theorem c_L_addWorker (l : Launch) (D : va_G) (A : Nat → Prop) (y : Nat → ClassId) (sa : Nat → Nat) (f : fw_F) (hfl : l.stackTraces = false) (α : Nat → Nat → Nat → Nat) (κ : cS) (nw no nt wk : Nat) (p0 : Int32) (hI : Ic nw no nt wk κ) (hR : Rc y nw no nt wk κ α f) (o : Nat) (gl : Nat → Int64) (hd : fw_dis f (oC y o gl)) : Met l yL_addWorker wsL_addWorker ({ frames := 8, cells := 7, slots := 131, locals := 132 } : Room) (cPc D A y sa (fw_or f (oC y o gl)) [.ref (α 0 0 0), .int p0, .ref o]) (cQi D A (fun k f1 => (k = 1 ∧ (fun E => (E = nIOB ∧ ¬ inr p0 0 2) ∨ (E = nISE ∧ inr p0 0 2 ∧ nw = 8)) nIOB ∧ f1 = fw_or f (oC y o gl)) ∨ (k = 2 ∧ (fun E => (E = nIOB ∧ ¬ inr p0 0 2) ∨ (E = nISE ∧ inr p0 0 2 ∧ nw = 8)) nISE ∧ f1 = fw_or f (oC y o gl)) ∨ (k = 0 ∧ ∃ r fc1, (fun r f1 => ∃ ev α2, ev < 3 ∧ p0 = nI ev ∧ nw < 8 ∧ r = nI nw ∧ α2 0 0 0 = α 0 0 0 ∧ Rc y (nw + 1) no nt wk (nwK κ nw ev) α2 f1) r fc1 ∧ fw_dis fc1 (oC y o (oU gl r)) ∧ f1 = fw_or fc1 (oC y o (oU gl r))))) 7 131 A := by
  refine fw_hmet (by decide) rfl [.ref (α 0 0 0), .int p0, .ref o] (Nat.le_of_ble_eq_true rfl) ?_
  intro p e s m args below meth c ls I htab hE hw hl
  obtain ⟨hx, hb, hr, hts, hown, hlocks, hml⟩ := I
  have hown : s.vm.findClass RL = some m.cls := hown
  have hl : lv_has ls 4 [(0, .ref (α 0 0 0)), (1, .int p0), (2, .ref o)] := hl
  refine lv_aload_n hx hb dL_addWorker_0 rfl (lv_at hl 2 rfl) ?_
  refine lv_iconst (v := 0) hx hb dL_addWorker_1 (by decide) ?_
  refine lv_aload_n hx hb dL_addWorker_2 rfl (lv_at hl 0 rfl) ?_
  refine lv_iload_n hx hb dL_addWorker_3 rfl (lv_at hl 1 rfl) ?_
  refine fw_xViN (thr := fun E => (E = nIOB ∧ ¬ inr p0 0 2) ∨ (E = nISE ∧ inr p0 0 2 ∧ nw = 8)) (f := f) (g := oC y o gl) hx hb hml hown hts hE hw hd [.int p0] [.int 0, .ref o] (c_X8_addWorker l D (fw_A A (oC y o gl)) y sa f hfl α κ nw no nt wk p0 hI hR) (cwV 1 hts gL_addWorker_X8_addWorker rfl rfl rfl (by decide +kernel) ⟨Nat.le_of_ble_eq_true rfl, Nat.le_of_ble_eq_true rfl⟩) (ci := 8) rfl rfl hR.x rfl hl.1 rfl (Nat.le_of_ble_eq_true rfl) dL_addWorker_4 ⟨Nat.le_of_ble_eq_true rfl, Nat.le_of_ble_eq_true rfl⟩ (fun E ce q9 H locs hth hw hce hcv hcl => ?_) (fun r fc1 H locs hp hd1 hw => ?_)
  · have hth2 := hth
    rcases hth with ⟨rfl, h⟩ | ⟨rfl, h⟩
    · refine vx_catch (own := RL) (name := nIOB) (E := nIOB) hown [] (⟨0, 9, 12, 13⟩ : ExceptionTableEntry) [(⟨0, 9, 15, 15⟩ : ExceptionTableEntry)] htab (fun z hz => absurd hz List.not_mem_nil) rfl (by decide) (hts (.classLink RL 13 nIOB) (by decide +kernel)) (va_Nw.use rfl (hE.1.2.2.1 (.castable nIOB nIOB) (by decide +kernel))) hce hcv hcl ?_
      refine W.eq (g2 := F0 m 12 ls [.ref q9]) rfl ?_
      refine lv_astore_n (lv' := [(3, .ref q9), (0, .ref (α 0 0 0)), (1, .int p0), (2, .ref o)]) hx hb dL_addWorker_12 rfl hl (by decide) rfl (fun ls hl => ?_)
      refine lv_iconst (v := 1) hx hb dL_addWorker_13 (by decide) ?_
      exact fw_iret hx hb hr hlocks hw (Nat.le_of_ble_eq_true rfl) (Nat.le_of_ble_eq_true rfl) dL_addWorker_14 (Or.inl ⟨rfl, hth2, rfl⟩)
    · refine vx_catch (own := RL) (name := nISE) (E := nISE) hown [(⟨0, 9, 12, 13⟩ : ExceptionTableEntry)] (⟨0, 9, 15, 15⟩ : ExceptionTableEntry) [] htab (fun z hz => by simp only [List.mem_cons, List.not_mem_nil, or_false] at hz; subst hz; exact Or.inr ⟨by decide, nIOB, hts (.classLink RL 13 nIOB) (by decide +kernel), hE.1.2.2.2.2.2.2.1⟩) rfl (by decide) (hts (.classLink RL 15 nISE) (by decide +kernel)) (va_Nw.use rfl (hE.1.2.2.1 (.castable nISE nISE) (by decide +kernel))) hce hcv hcl ?_
      refine W.eq (g2 := F0 m 15 ls [.ref q9]) rfl ?_
      refine lv_astore_n (lv' := [(3, .ref q9), (0, .ref (α 0 0 0)), (1, .int p0), (2, .ref o)]) hx hb dL_addWorker_15 rfl hl (by decide) rfl (fun ls hl => ?_)
      refine lv_iconst (v := 2) hx hb dL_addWorker_16 (by decide) ?_
      exact fw_iret hx hb hr hlocks hw (Nat.le_of_ble_eq_true rfl) (Nat.le_of_ble_eq_true rfl) dL_addWorker_17 (Or.inr (Or.inl ⟨rfl, hth2, rfl⟩))
  · refine lv_i2l (v := r.toInt64) hx hb dL_addWorker_7 rfl ?_
    refine fw_last hx hb hE.1.1 hw (g := gl) (or_o hd1) 9 rfl (by have z : vp_in (nI 0) 1 := vp_in_nI (by decide) (by decide); exact z) dL_addWorker_8 (fun H locs hw => ?_)
    rw [or_oU hd1] at hw
    refine lv_goto (tgt := 18) hx hb dL_addWorker_9 (by decide) ?_
    refine lv_iconst (v := 0) hx hb dL_addWorker_18 (by decide) ?_
    exact fw_iret hx hb hr hlocks hw (Nat.le_of_ble_eq_true rfl) (Nat.le_of_ble_eq_true rfl) dL_addWorker_19 (Or.inr (Or.inr (⟨rfl, r, fc1, hp, dis_oC hd1, rfl⟩)))

set_option maxHeartbeats 4000000 in
set_option maxRecDepth 100000 in
/-- the law: setRank -/
theorem c_L_setRank (l : Launch) (D : va_G) (A : Nat → Prop) (y : Nat → ClassId) (sa : Nat → Nat) (f : fw_F) (hfl : l.stackTraces = false) (α : Nat → Nat → Nat → Nat) (κ : cS) (nw no nt wk : Nat) (p0 p1 p2 : Int32) (hI : Ic nw no nt wk κ) (hR : Rc y nw no nt wk κ α f) (o : Nat) (gl : Nat → Int64) (hd : fw_dis f (oC y o gl)) : Met l yL_setRank wsL_setRank ({ frames := 9, cells := 3, slots := 18, locals := 155 } : Room) (cPc D A y sa (fw_or f (oC y o gl)) [.ref (α 0 0 0), .int p0, .int p1, .int p2, .ref o]) (cQi D A (fun k f1 => (k = 1 ∧ (fun E => (E = nIOB ∧ ¬ (inr p0 0 (nI nw - 1) ∧ inr p2 0 2)) ∨ (E = nIAE ∧ inr p0 0 (nI nw - 1) ∧ inr p2 0 2 ∧ ¬ inr p1 0 30)) nIOB ∧ f1 = fw_or f (oC y o gl)) ∨ (k = 2 ∧ (fun E => (E = nIOB ∧ ¬ (inr p0 0 (nI nw - 1) ∧ inr p2 0 2)) ∨ (E = nIAE ∧ inr p0 0 (nI nw - 1) ∧ inr p2 0 2 ∧ ¬ inr p1 0 30)) nIAE ∧ f1 = fw_or f (oC y o gl)) ∨ (k = 0 ∧ ∃ r fc1, (fun r f1 => ∃ w kv rv, w < nw ∧ kv ≤ 30 ∧ rv < 3 ∧ p0 = nI w ∧ p1 = nI kv ∧ p2 = nI rv ∧ r = κ 5 w kv ∧ Rc y nw no nt wk (tellK κ 5 6 w kv p2) α f1) r fc1 ∧ fw_dis fc1 (oC y o (oU gl r)) ∧ f1 = fw_or fc1 (oC y o (oU gl r))))) 3 18 A := by
  refine fw_hmet (by decide) rfl [.ref (α 0 0 0), .int p0, .int p1, .int p2, .ref o] (Nat.le_of_ble_eq_true rfl) ?_
  intro p e s m args below meth c ls I htab hE hw hl
  obtain ⟨hx, hb, hr, hts, hown, hlocks, hml⟩ := I
  have hown : s.vm.findClass RL = some m.cls := hown
  have hl : lv_has ls 6 [(0, .ref (α 0 0 0)), (1, .int p0), (2, .int p1), (3, .int p2), (4, .ref o)] := hl
  refine lv_aload hx hb dL_setRank_0 (lv_at hl 4 rfl) ?_
  refine lv_iconst (v := 0) hx hb dL_setRank_2 (by decide) ?_
  refine lv_aload_n hx hb dL_setRank_3 rfl (lv_at hl 0 rfl) ?_
  refine lv_iload_n hx hb dL_setRank_4 rfl (lv_at hl 1 rfl) ?_
  refine lv_iload_n hx hb dL_setRank_5 rfl (lv_at hl 2 rfl) ?_
  refine lv_iload_n hx hb dL_setRank_6 rfl (lv_at hl 3 rfl) ?_
  refine fw_xViN (thr := fun E => (E = nIOB ∧ ¬ (inr p0 0 (nI nw - 1) ∧ inr p2 0 2)) ∨ (E = nIAE ∧ inr p0 0 (nI nw - 1) ∧ inr p2 0 2 ∧ ¬ inr p1 0 30)) (f := f) (g := oC y o gl) hx hb hml hown hts hE hw hd [.int p0, .int p1, .int p2] [.int 0, .ref o] (c_X8_setRank l D (fw_A A (oC y o gl)) y sa f hfl α κ nw no nt wk p0 p1 p2 hI hR) (cwV 3 hts gL_setRank_X8_setRank rfl rfl rfl (by decide +kernel) ⟨Nat.le_of_ble_eq_true rfl, Nat.le_of_ble_eq_true rfl⟩) (ci := 8) rfl rfl hR.x rfl hl.1 rfl (Nat.le_of_ble_eq_true rfl) dL_setRank_7 ⟨Nat.le_of_ble_eq_true rfl, Nat.le_of_ble_eq_true rfl⟩ (fun E ce q9 H locs hth hw hce hcv hcl => ?_) (fun r fc1 H locs hp hd1 hw => ?_)
  · have hth2 := hth
    rcases hth with ⟨rfl, h⟩ | ⟨rfl, h⟩
    · refine vx_catch (own := RL) (name := nIOB) (E := nIOB) hown [] (⟨0, 12, 15, 13⟩ : ExceptionTableEntry) [(⟨0, 12, 19, 21⟩ : ExceptionTableEntry)] htab (fun z hz => absurd hz List.not_mem_nil) rfl (by decide) (hts (.classLink RL 13 nIOB) (by decide +kernel)) (va_Nw.use rfl (hE.1.2.2.1 (.castable nIOB nIOB) (by decide +kernel))) hce hcv hcl ?_
      refine W.eq (g2 := F0 m 15 ls [.ref q9]) rfl ?_
      refine lv_astore (lv' := [(5, .ref q9), (0, .ref (α 0 0 0)), (1, .int p0), (2, .int p1), (3, .int p2), (4, .ref o)]) hx hb dL_setRank_15 hl (by decide) rfl (fun ls hl => ?_)
      refine lv_iconst (v := 1) hx hb dL_setRank_17 (by decide) ?_
      exact fw_iret hx hb hr hlocks hw (Nat.le_of_ble_eq_true rfl) (Nat.le_of_ble_eq_true rfl) dL_setRank_18 (Or.inl ⟨rfl, hth2, rfl⟩)
    · refine vx_catch (own := RL) (name := nIAE) (E := nIAE) hown [(⟨0, 12, 15, 13⟩ : ExceptionTableEntry)] (⟨0, 12, 19, 21⟩ : ExceptionTableEntry) [] htab (fun z hz => by simp only [List.mem_cons, List.not_mem_nil, or_false] at hz; subst hz; exact Or.inr ⟨by decide, nIOB, hts (.classLink RL 13 nIOB) (by decide +kernel), hE.1.2.2.2.2.2.1⟩) rfl (by decide) (hts (.classLink RL 21 nIAE) (by decide +kernel)) (va_Nw.use rfl (hE.1.2.2.1 (.castable nIAE nIAE) (by decide +kernel))) hce hcv hcl ?_
      refine W.eq (g2 := F0 m 19 ls [.ref q9]) rfl ?_
      refine lv_astore (lv' := [(5, .ref q9), (0, .ref (α 0 0 0)), (1, .int p0), (2, .int p1), (3, .int p2), (4, .ref o)]) hx hb dL_setRank_19 hl (by decide) rfl (fun ls hl => ?_)
      refine lv_iconst (v := 2) hx hb dL_setRank_21 (by decide) ?_
      exact fw_iret hx hb hr hlocks hw (Nat.le_of_ble_eq_true rfl) (Nat.le_of_ble_eq_true rfl) dL_setRank_22 (Or.inr (Or.inl ⟨rfl, hth2, rfl⟩))
  · refine lv_i2l (v := r.toInt64) hx hb dL_setRank_10 rfl ?_
    refine fw_last hx hb hE.1.1 hw (g := gl) (or_o hd1) 9 rfl (by have z : vp_in (nI 0) 1 := vp_in_nI (by decide) (by decide); exact z) dL_setRank_11 (fun H locs hw => ?_)
    rw [or_oU hd1] at hw
    refine lv_goto (tgt := 23) hx hb dL_setRank_12 (by decide) ?_
    refine lv_iconst (v := 0) hx hb dL_setRank_23 (by decide) ?_
    exact fw_iret hx hb hr hlocks hw (Nat.le_of_ble_eq_true rfl) (Nat.le_of_ble_eq_true rfl) dL_setRank_24 (Or.inr (Or.inr (⟨rfl, r, fc1, hp, dis_oC hd1, rfl⟩)))

set_option maxHeartbeats 4000000 in
set_option maxRecDepth 100000 in
/-- the law: setRates -/
theorem c_L_setRates (l : Launch) (D : va_G) (A : Nat → Prop) (y : Nat → ClassId) (sa : Nat → Nat) (f : fw_F) (hfl : l.stackTraces = false) (α : Nat → Nat → Nat → Nat) (κ : cS) (nw no nt wk : Nat) (p0 p1 p2 p3 : Int32) (hI : Ic nw no nt wk κ) (hR : Rc y nw no nt wk κ α f) (o : Nat) (gl : Nat → Int64) (hd : fw_dis f (oC y o gl)) : Met l yL_setRates wsL_setRates ({ frames := 9, cells := 4, slots := 24, locals := 156 } : Room) (cPc D A y sa (fw_or f (oC y o gl)) [.ref (α 0 0 0), .int p0, .int p1, .int p2, .int p3, .ref o]) (cQi D A (fun k f1 => (k = 1 ∧ (fun E => (E = nIOB ∧ ¬ inr p0 0 2) ∨ (E = nIAE ∧ inr p0 0 2 ∧ ¬ (inr p1 0 30 ∧ inr p2 0 10000 ∧ inr p3 0 10000))) nIOB ∧ f1 = fw_or f (oC y o gl)) ∨ (k = 2 ∧ (fun E => (E = nIOB ∧ ¬ inr p0 0 2) ∨ (E = nIAE ∧ inr p0 0 2 ∧ ¬ (inr p1 0 30 ∧ inr p2 0 10000 ∧ inr p3 0 10000))) nIAE ∧ f1 = fw_or f (oC y o gl)) ∨ (k = 0 ∧ ∃ r fc1, (fun r f1 => ∃ rv kv, rv < 3 ∧ kv ≤ 30 ∧ p0 = nI rv ∧ p1 = nI kv ∧ inr p2 0 10000 ∧ inr p3 0 10000 ∧ r = κ 2 (2 * rv) kv ∧ Rc y nw no nt wk (tellK (tellK κ 2 3 (2 * rv) kv p2) 2 3 (2 * rv + 1) kv p3) α f1) r fc1 ∧ fw_dis fc1 (oC y o (oU gl r)) ∧ f1 = fw_or fc1 (oC y o (oU gl r))))) 4 24 A := by
  refine fw_hmet (by decide) rfl [.ref (α 0 0 0), .int p0, .int p1, .int p2, .int p3, .ref o] (Nat.le_of_ble_eq_true rfl) ?_
  intro p e s m args below meth c ls I htab hE hw hl
  obtain ⟨hx, hb, hr, hts, hown, hlocks, hml⟩ := I
  have hown : s.vm.findClass RL = some m.cls := hown
  have hl : lv_has ls 7 [(0, .ref (α 0 0 0)), (1, .int p0), (2, .int p1), (3, .int p2), (4, .int p3), (5, .ref o)] := hl
  refine lv_aload hx hb dL_setRates_0 (lv_at hl 5 rfl) ?_
  refine lv_iconst (v := 0) hx hb dL_setRates_2 (by decide) ?_
  refine lv_aload_n hx hb dL_setRates_3 rfl (lv_at hl 0 rfl) ?_
  refine lv_iload_n hx hb dL_setRates_4 rfl (lv_at hl 1 rfl) ?_
  refine lv_iload_n hx hb dL_setRates_5 rfl (lv_at hl 2 rfl) ?_
  refine lv_iload_n hx hb dL_setRates_6 rfl (lv_at hl 3 rfl) ?_
  refine lv_iload hx hb dL_setRates_7 (lv_at hl 4 rfl) ?_
  refine fw_xViN (thr := fun E => (E = nIOB ∧ ¬ inr p0 0 2) ∨ (E = nIAE ∧ inr p0 0 2 ∧ ¬ (inr p1 0 30 ∧ inr p2 0 10000 ∧ inr p3 0 10000))) (f := f) (g := oC y o gl) hx hb hml hown hts hE hw hd [.int p0, .int p1, .int p2, .int p3] [.int 0, .ref o] (c_X8_setRates l D (fw_A A (oC y o gl)) y sa f hfl α κ nw no nt wk p0 p1 p2 p3 hI hR) (cwV 4 hts gL_setRates_X8_setRates rfl rfl rfl (by decide +kernel) ⟨Nat.le_of_ble_eq_true rfl, Nat.le_of_ble_eq_true rfl⟩) (ci := 8) rfl rfl hR.x rfl hl.1 rfl (Nat.le_of_ble_eq_true rfl) dL_setRates_9 ⟨Nat.le_of_ble_eq_true rfl, Nat.le_of_ble_eq_true rfl⟩ (fun E ce q9 H locs hth hw hce hcv hcl => ?_) (fun r fc1 H locs hp hd1 hw => ?_)
  · have hth2 := hth
    rcases hth with ⟨rfl, h⟩ | ⟨rfl, h⟩
    · refine vx_catch (own := RL) (name := nIOB) (E := nIOB) hown [] (⟨0, 14, 17, 13⟩ : ExceptionTableEntry) [(⟨0, 14, 21, 21⟩ : ExceptionTableEntry)] htab (fun z hz => absurd hz List.not_mem_nil) rfl (by decide) (hts (.classLink RL 13 nIOB) (by decide +kernel)) (va_Nw.use rfl (hE.1.2.2.1 (.castable nIOB nIOB) (by decide +kernel))) hce hcv hcl ?_
      refine W.eq (g2 := F0 m 17 ls [.ref q9]) rfl ?_
      refine lv_astore (lv' := [(6, .ref q9), (0, .ref (α 0 0 0)), (1, .int p0), (2, .int p1), (3, .int p2), (4, .int p3), (5, .ref o)]) hx hb dL_setRates_17 hl (by decide) rfl (fun ls hl => ?_)
      refine lv_iconst (v := 1) hx hb dL_setRates_19 (by decide) ?_
      exact fw_iret hx hb hr hlocks hw (Nat.le_of_ble_eq_true rfl) (Nat.le_of_ble_eq_true rfl) dL_setRates_20 (Or.inl ⟨rfl, hth2, rfl⟩)
    · refine vx_catch (own := RL) (name := nIAE) (E := nIAE) hown [(⟨0, 14, 17, 13⟩ : ExceptionTableEntry)] (⟨0, 14, 21, 21⟩ : ExceptionTableEntry) [] htab (fun z hz => by simp only [List.mem_cons, List.not_mem_nil, or_false] at hz; subst hz; exact Or.inr ⟨by decide, nIOB, hts (.classLink RL 13 nIOB) (by decide +kernel), hE.1.2.2.2.2.2.1⟩) rfl (by decide) (hts (.classLink RL 21 nIAE) (by decide +kernel)) (va_Nw.use rfl (hE.1.2.2.1 (.castable nIAE nIAE) (by decide +kernel))) hce hcv hcl ?_
      refine W.eq (g2 := F0 m 21 ls [.ref q9]) rfl ?_
      refine lv_astore (lv' := [(6, .ref q9), (0, .ref (α 0 0 0)), (1, .int p0), (2, .int p1), (3, .int p2), (4, .int p3), (5, .ref o)]) hx hb dL_setRates_21 hl (by decide) rfl (fun ls hl => ?_)
      refine lv_iconst (v := 2) hx hb dL_setRates_23 (by decide) ?_
      exact fw_iret hx hb hr hlocks hw (Nat.le_of_ble_eq_true rfl) (Nat.le_of_ble_eq_true rfl) dL_setRates_24 (Or.inr (Or.inl ⟨rfl, hth2, rfl⟩))
  · refine lv_i2l (v := r.toInt64) hx hb dL_setRates_12 rfl ?_
    refine fw_last hx hb hE.1.1 hw (g := gl) (or_o hd1) 9 rfl (by have z : vp_in (nI 0) 1 := vp_in_nI (by decide) (by decide); exact z) dL_setRates_13 (fun H locs hw => ?_)
    rw [or_oU hd1] at hw
    refine lv_goto (tgt := 25) hx hb dL_setRates_14 (by decide) ?_
    refine lv_iconst (v := 0) hx hb dL_setRates_25 (by decide) ?_
    exact fw_iret hx hb hr hlocks hw (Nat.le_of_ble_eq_true rfl) (Nat.le_of_ble_eq_true rfl) dL_setRates_26 (Or.inr (Or.inr (⟨rfl, r, fc1, hp, dis_oC hd1, rfl⟩)))

set_option maxHeartbeats 4000000 in
set_option maxRecDepth 100000 in
/-- the law: come -/
theorem c_L_come (l : Launch) (D : va_G) (A : Nat → Prop) (y : Nat → ClassId) (sa : Nat → Nat) (f : fw_F) (hfl : l.stackTraces = false) (α : Nat → Nat → Nat → Nat) (κ : cS) (nw no nt wk : Nat) (p0 p1 p2 p3 p4 : Int32) (hI : Ic nw no nt wk κ) (hR : Rc y nw no nt wk κ α f) (o : Nat) (gl : Nat → Int64) (hd : fw_dis f (oC y o gl)) : Met l yL_come wsL_come ({ frames := 9, cells := 6, slots := 33, locals := 157 } : Room) (cPc D A y sa (fw_or f (oC y o gl)) [.ref (α 0 0 0), .int p0, .int p1, .int p2, .int p3, .int p4, .ref o]) (cQi D A (fun k f1 => (k = 1 ∧ (fun E => (E = nIOB ∧ ¬ inr p0 0 (nI nw - 1)) ∨ (E = nIAE ∧ inr p0 0 (nI nw - 1) ∧ ¬ (inr p1 0 19 ∧ inr p2 0 30 ∧ inr p3 0 100 ∧ inr p4 0 100))) nIOB ∧ f1 = fw_or f (oC y o gl)) ∨ (k = 2 ∧ (fun E => (E = nIOB ∧ ¬ inr p0 0 (nI nw - 1)) ∨ (E = nIAE ∧ inr p0 0 (nI nw - 1) ∧ ¬ (inr p1 0 19 ∧ inr p2 0 30 ∧ inr p3 0 100 ∧ inr p4 0 100))) nIAE ∧ f1 = fw_or f (oC y o gl)) ∨ (k = 0 ∧ ∃ r fc1, (fun r f1 => ∃ w s kv, w < nw ∧ s ≤ 19 ∧ kv ≤ 30 ∧ p0 = nI w ∧ p1 = nI s ∧ p2 = nI kv ∧ inr p3 0 100 ∧ inr p4 0 100 ∧ ((¬ κ 7 w s = -1 ∧ r = κ 4 w 1 ∧ f1 = f) ∨ (κ 7 w s = -1 ∧ ∃ cn α2, cn ≤ 20 ∧ κ 4 w 1 = nI cn ∧ r = (nI (cnR (va_up (κ 7 w) s (nI kv)) (20 - cn) cn)) ∧ α2 0 0 0 = α 0 0 0 ∧ Rc y nw no nt wk (shK κ w s kv p3 p4 (nI (cnR (va_up (κ 7 w) s (nI kv)) (20 - cn) cn))) α2 f1))) r fc1 ∧ fw_dis fc1 (oC y o (oU gl r)) ∧ f1 = fw_or fc1 (oC y o (oU gl r))))) 6 33 A := by
  refine fw_hmet (by decide) rfl [.ref (α 0 0 0), .int p0, .int p1, .int p2, .int p3, .int p4, .ref o] (Nat.le_of_ble_eq_true rfl) ?_
  intro p e s m args below meth c ls I htab hE hw hl
  obtain ⟨hx, hb, hr, hts, hown, hlocks, hml⟩ := I
  have hown : s.vm.findClass RL = some m.cls := hown
  have hl : lv_has ls 8 [(0, .ref (α 0 0 0)), (1, .int p0), (2, .int p1), (3, .int p2), (4, .int p3), (5, .int p4), (6, .ref o)] := hl
  refine lv_aload hx hb dL_come_0 (lv_at hl 6 rfl) ?_
  refine lv_iconst (v := 0) hx hb dL_come_2 (by decide) ?_
  refine lv_aload_n hx hb dL_come_3 rfl (lv_at hl 0 rfl) ?_
  refine lv_iload_n hx hb dL_come_4 rfl (lv_at hl 1 rfl) ?_
  refine lv_iload_n hx hb dL_come_5 rfl (lv_at hl 2 rfl) ?_
  refine lv_iload_n hx hb dL_come_6 rfl (lv_at hl 3 rfl) ?_
  refine lv_iload hx hb dL_come_7 (lv_at hl 4 rfl) ?_
  refine lv_iload hx hb dL_come_9 (lv_at hl 5 rfl) ?_
  refine fw_xViN (thr := fun E => (E = nIOB ∧ ¬ inr p0 0 (nI nw - 1)) ∨ (E = nIAE ∧ inr p0 0 (nI nw - 1) ∧ ¬ (inr p1 0 19 ∧ inr p2 0 30 ∧ inr p3 0 100 ∧ inr p4 0 100))) (f := f) (g := oC y o gl) hx hb hml hown hts hE hw hd [.int p0, .int p1, .int p2, .int p3, .int p4] [.int 0, .ref o] (c_X8_come l D (fw_A A (oC y o gl)) y sa f hfl α κ nw no nt wk p0 p1 p2 p3 p4 hI hR) (cwV 5 hts gL_come_X8_come rfl rfl rfl (by decide +kernel) ⟨Nat.le_of_ble_eq_true rfl, Nat.le_of_ble_eq_true rfl⟩) (ci := 8) rfl rfl hR.x rfl hl.1 rfl (Nat.le_of_ble_eq_true rfl) dL_come_11 ⟨Nat.le_of_ble_eq_true rfl, Nat.le_of_ble_eq_true rfl⟩ (fun E ce q9 H locs hth hw hce hcv hcl => ?_) (fun r fc1 H locs hp hd1 hw => ?_)
  · have hth2 := hth
    rcases hth with ⟨rfl, h⟩ | ⟨rfl, h⟩
    · refine vx_catch (own := RL) (name := nIOB) (E := nIOB) hown [] (⟨0, 16, 19, 13⟩ : ExceptionTableEntry) [(⟨0, 16, 23, 21⟩ : ExceptionTableEntry)] htab (fun z hz => absurd hz List.not_mem_nil) rfl (by decide) (hts (.classLink RL 13 nIOB) (by decide +kernel)) (va_Nw.use rfl (hE.1.2.2.1 (.castable nIOB nIOB) (by decide +kernel))) hce hcv hcl ?_
      refine W.eq (g2 := F0 m 19 ls [.ref q9]) rfl ?_
      refine lv_astore (lv' := [(7, .ref q9), (0, .ref (α 0 0 0)), (1, .int p0), (2, .int p1), (3, .int p2), (4, .int p3), (5, .int p4), (6, .ref o)]) hx hb dL_come_19 hl (by decide) rfl (fun ls hl => ?_)
      refine lv_iconst (v := 1) hx hb dL_come_21 (by decide) ?_
      exact fw_iret hx hb hr hlocks hw (Nat.le_of_ble_eq_true rfl) (Nat.le_of_ble_eq_true rfl) dL_come_22 (Or.inl ⟨rfl, hth2, rfl⟩)
    · refine vx_catch (own := RL) (name := nIAE) (E := nIAE) hown [(⟨0, 16, 19, 13⟩ : ExceptionTableEntry)] (⟨0, 16, 23, 21⟩ : ExceptionTableEntry) [] htab (fun z hz => by simp only [List.mem_cons, List.not_mem_nil, or_false] at hz; subst hz; exact Or.inr ⟨by decide, nIOB, hts (.classLink RL 13 nIOB) (by decide +kernel), hE.1.2.2.2.2.2.1⟩) rfl (by decide) (hts (.classLink RL 21 nIAE) (by decide +kernel)) (va_Nw.use rfl (hE.1.2.2.1 (.castable nIAE nIAE) (by decide +kernel))) hce hcv hcl ?_
      refine W.eq (g2 := F0 m 23 ls [.ref q9]) rfl ?_
      refine lv_astore (lv' := [(7, .ref q9), (0, .ref (α 0 0 0)), (1, .int p0), (2, .int p1), (3, .int p2), (4, .int p3), (5, .int p4), (6, .ref o)]) hx hb dL_come_23 hl (by decide) rfl (fun ls hl => ?_)
      refine lv_iconst (v := 2) hx hb dL_come_25 (by decide) ?_
      exact fw_iret hx hb hr hlocks hw (Nat.le_of_ble_eq_true rfl) (Nat.le_of_ble_eq_true rfl) dL_come_26 (Or.inr (Or.inl ⟨rfl, hth2, rfl⟩))
  · refine lv_i2l (v := r.toInt64) hx hb dL_come_14 rfl ?_
    refine fw_last hx hb hE.1.1 hw (g := gl) (or_o hd1) 9 rfl (by have z : vp_in (nI 0) 1 := vp_in_nI (by decide) (by decide); exact z) dL_come_15 (fun H locs hw => ?_)
    rw [or_oU hd1] at hw
    refine lv_goto (tgt := 27) hx hb dL_come_16 (by decide) ?_
    refine lv_iconst (v := 0) hx hb dL_come_27 (by decide) ?_
    exact fw_iret hx hb hr hlocks hw (Nat.le_of_ble_eq_true rfl) (Nat.le_of_ble_eq_true rfl) dL_come_28 (Or.inr (Or.inr (⟨rfl, r, fc1, hp, dis_oC hd1, rfl⟩)))

set_option maxHeartbeats 4000000 in
set_option maxRecDepth 100000 in
/-- the law: correct -/
theorem c_L_correct (l : Launch) (D : va_G) (A : Nat → Prop) (y : Nat → ClassId) (sa : Nat → Nat) (f : fw_F) (hfl : l.stackTraces = false) (α : Nat → Nat → Nat → Nat) (κ : cS) (nw no nt wk : Nat) (p0 p1 p2 p3 : Int32) (hI : Ic nw no nt wk κ) (hR : Rc y nw no nt wk κ α f) (o : Nat) (gl : Nat → Int64) (hd : fw_dis f (oC y o gl)) : Met l yL_correct wsL_correct ({ frames := 9, cells := 3, slots := 18, locals := 157 } : Room) (cPc D A y sa (fw_or f (oC y o gl)) [.ref (α 0 0 0), .int p0, .int p1, .int p2, .int p3, .ref o]) (cQi D A (fun k f1 => (k = 1 ∧ (fun E => (E = nIOB ∧ ¬ (∃ wv sv, wv < nw ∧ sv ≤ 19 ∧ p0 = nI wv ∧ p1 = nI sv ∧ ¬ κ 7 wv sv = -1)) ∨ (E = nIAE ∧ (∃ wv sv, wv < nw ∧ sv ≤ 19 ∧ p0 = nI wv ∧ p1 = nI sv ∧ ¬ κ 7 wv sv = -1) ∧ ¬ (inr p2 0 100 ∧ inr p3 0 100))) nIOB ∧ f1 = fw_or f (oC y o gl)) ∨ (k = 2 ∧ (fun E => (E = nIOB ∧ ¬ (∃ wv sv, wv < nw ∧ sv ≤ 19 ∧ p0 = nI wv ∧ p1 = nI sv ∧ ¬ κ 7 wv sv = -1)) ∨ (E = nIAE ∧ (∃ wv sv, wv < nw ∧ sv ≤ 19 ∧ p0 = nI wv ∧ p1 = nI sv ∧ ¬ κ 7 wv sv = -1) ∧ ¬ (inr p2 0 100 ∧ inr p3 0 100))) nIAE ∧ f1 = fw_or f (oC y o gl)) ∨ (k = 0 ∧ ∃ r fc1, (fun r f1 => ∃ w s, w < nw ∧ s ≤ 19 ∧ p0 = nI w ∧ p1 = nI s ∧ ¬ κ 7 w s = -1 ∧ inr p2 0 100 ∧ inr p3 0 100 ∧ r = κ 8 w s + κ 9 w s ∧ Rc y nw no nt wk (upF (upF κ 8 w (va_up (κ 8 w) s p2)) 9 w (va_up (upF κ 8 w (va_up (κ 8 w) s p2) 9 w) s p3)) α f1) r fc1 ∧ fw_dis fc1 (oC y o (oU gl r)) ∧ f1 = fw_or fc1 (oC y o (oU gl r))))) 3 18 A := by
  refine fw_hmet (by decide) rfl [.ref (α 0 0 0), .int p0, .int p1, .int p2, .int p3, .ref o] (Nat.le_of_ble_eq_true rfl) ?_
  intro p e s m args below meth c ls I htab hE hw hl
  obtain ⟨hx, hb, hr, hts, hown, hlocks, hml⟩ := I
  have hown : s.vm.findClass RL = some m.cls := hown
  have hl : lv_has ls 7 [(0, .ref (α 0 0 0)), (1, .int p0), (2, .int p1), (3, .int p2), (4, .int p3), (5, .ref o)] := hl
  refine lv_aload hx hb dL_correct_0 (lv_at hl 5 rfl) ?_
  refine lv_iconst (v := 0) hx hb dL_correct_2 (by decide) ?_
  refine lv_aload_n hx hb dL_correct_3 rfl (lv_at hl 0 rfl) ?_
  refine lv_iload_n hx hb dL_correct_4 rfl (lv_at hl 1 rfl) ?_
  refine lv_iload_n hx hb dL_correct_5 rfl (lv_at hl 2 rfl) ?_
  refine lv_iload_n hx hb dL_correct_6 rfl (lv_at hl 3 rfl) ?_
  refine lv_iload hx hb dL_correct_7 (lv_at hl 4 rfl) ?_
  refine fw_xViN (thr := fun E => (E = nIOB ∧ ¬ (∃ wv sv, wv < nw ∧ sv ≤ 19 ∧ p0 = nI wv ∧ p1 = nI sv ∧ ¬ κ 7 wv sv = -1)) ∨ (E = nIAE ∧ (∃ wv sv, wv < nw ∧ sv ≤ 19 ∧ p0 = nI wv ∧ p1 = nI sv ∧ ¬ κ 7 wv sv = -1) ∧ ¬ (inr p2 0 100 ∧ inr p3 0 100))) (f := f) (g := oC y o gl) hx hb hml hown hts hE hw hd [.int p0, .int p1, .int p2, .int p3] [.int 0, .ref o] (c_X8_correct l D (fw_A A (oC y o gl)) y sa f hfl α κ nw no nt wk p0 p1 p2 p3 hI hR) (cwV 4 hts gL_correct_X8_correct rfl rfl rfl (by decide +kernel) ⟨Nat.le_of_ble_eq_true rfl, Nat.le_of_ble_eq_true rfl⟩) (ci := 8) rfl rfl hR.x rfl hl.1 rfl (Nat.le_of_ble_eq_true rfl) dL_correct_9 ⟨Nat.le_of_ble_eq_true rfl, Nat.le_of_ble_eq_true rfl⟩ (fun E ce q9 H locs hth hw hce hcv hcl => ?_) (fun r fc1 H locs hp hd1 hw => ?_)
  · have hth2 := hth
    rcases hth with ⟨rfl, h⟩ | ⟨rfl, h⟩
    · refine vx_catch (own := RL) (name := nIOB) (E := nIOB) hown [] (⟨0, 14, 17, 13⟩ : ExceptionTableEntry) [(⟨0, 14, 21, 21⟩ : ExceptionTableEntry)] htab (fun z hz => absurd hz List.not_mem_nil) rfl (by decide) (hts (.classLink RL 13 nIOB) (by decide +kernel)) (va_Nw.use rfl (hE.1.2.2.1 (.castable nIOB nIOB) (by decide +kernel))) hce hcv hcl ?_
      refine W.eq (g2 := F0 m 17 ls [.ref q9]) rfl ?_
      refine lv_astore (lv' := [(6, .ref q9), (0, .ref (α 0 0 0)), (1, .int p0), (2, .int p1), (3, .int p2), (4, .int p3), (5, .ref o)]) hx hb dL_correct_17 hl (by decide) rfl (fun ls hl => ?_)
      refine lv_iconst (v := 1) hx hb dL_correct_19 (by decide) ?_
      exact fw_iret hx hb hr hlocks hw (Nat.le_of_ble_eq_true rfl) (Nat.le_of_ble_eq_true rfl) dL_correct_20 (Or.inl ⟨rfl, hth2, rfl⟩)
    · refine vx_catch (own := RL) (name := nIAE) (E := nIAE) hown [(⟨0, 14, 17, 13⟩ : ExceptionTableEntry)] (⟨0, 14, 21, 21⟩ : ExceptionTableEntry) [] htab (fun z hz => by simp only [List.mem_cons, List.not_mem_nil, or_false] at hz; subst hz; exact Or.inr ⟨by decide, nIOB, hts (.classLink RL 13 nIOB) (by decide +kernel), hE.1.2.2.2.2.2.1⟩) rfl (by decide) (hts (.classLink RL 21 nIAE) (by decide +kernel)) (va_Nw.use rfl (hE.1.2.2.1 (.castable nIAE nIAE) (by decide +kernel))) hce hcv hcl ?_
      refine W.eq (g2 := F0 m 21 ls [.ref q9]) rfl ?_
      refine lv_astore (lv' := [(6, .ref q9), (0, .ref (α 0 0 0)), (1, .int p0), (2, .int p1), (3, .int p2), (4, .int p3), (5, .ref o)]) hx hb dL_correct_21 hl (by decide) rfl (fun ls hl => ?_)
      refine lv_iconst (v := 2) hx hb dL_correct_23 (by decide) ?_
      exact fw_iret hx hb hr hlocks hw (Nat.le_of_ble_eq_true rfl) (Nat.le_of_ble_eq_true rfl) dL_correct_24 (Or.inr (Or.inl ⟨rfl, hth2, rfl⟩))
  · refine lv_i2l (v := r.toInt64) hx hb dL_correct_12 rfl ?_
    refine fw_last hx hb hE.1.1 hw (g := gl) (or_o hd1) 9 rfl (by have z : vp_in (nI 0) 1 := vp_in_nI (by decide) (by decide); exact z) dL_correct_13 (fun H locs hw => ?_)
    rw [or_oU hd1] at hw
    refine lv_goto (tgt := 25) hx hb dL_correct_14 (by decide) ?_
    refine lv_iconst (v := 0) hx hb dL_correct_25 (by decide) ?_
    exact fw_iret hx hb hr hlocks hw (Nat.le_of_ble_eq_true rfl) (Nat.le_of_ble_eq_true rfl) dL_correct_26 (Or.inr (Or.inr (⟨rfl, r, fc1, hp, dis_oC hd1, rfl⟩)))

set_option maxHeartbeats 4000000 in
set_option maxRecDepth 100000 in
/-- the law: acknowledged -/
theorem c_L_acknowledged (l : Launch) (D : va_G) (A : Nat → Prop) (y : Nat → ClassId) (sa : Nat → Nat) (f : fw_F) (hfl : l.stackTraces = false) (α : Nat → Nat → Nat → Nat) (κ : cS) (nw no nt wk : Nat) (p0 : Int32) (hI : Ic nw no nt wk κ) (hR : Rc y nw no nt wk κ α f) (o : Nat) (gl : Nat → Int64) (hd : fw_dis f (oC y o gl)) : Met l yL_acknowledged wsL_acknowledged ({ frames := 8, cells := 1, slots := 6, locals := 131 } : Room) (cPc D A y sa (fw_or f (oC y o gl)) [.ref (α 0 0 0), .int p0, .ref o]) (cQi D A (fun k f1 => (k = 1 ∧ (fun E => E = nIOB ∧ ¬ inr p0 0 (nI nw - 1)) nIOB ∧ f1 = fw_or f (oC y o gl)) ∨ (k = 0 ∧ ∃ r fc1, (fun r f1 => ∃ w, w < nw ∧ p0 = nI w ∧ r = κ 4 w 1 ∧ f1 = f) r fc1 ∧ fw_dis fc1 (oC y o (oU gl r)) ∧ f1 = fw_or fc1 (oC y o (oU gl r))))) 1 6 A := by
  refine fw_hmet (by decide) rfl [.ref (α 0 0 0), .int p0, .ref o] (Nat.le_of_ble_eq_true rfl) ?_
  intro p e s m args below meth c ls I htab hE hw hl
  obtain ⟨hx, hb, hr, hts, hown, hlocks, hml⟩ := I
  have hown : s.vm.findClass RL = some m.cls := hown
  have hl : lv_has ls 4 [(0, .ref (α 0 0 0)), (1, .int p0), (2, .ref o)] := hl
  refine lv_aload_n hx hb dL_acknowledged_0 rfl (lv_at hl 2 rfl) ?_
  refine lv_iconst (v := 0) hx hb dL_acknowledged_1 (by decide) ?_
  refine lv_aload_n hx hb dL_acknowledged_2 rfl (lv_at hl 0 rfl) ?_
  refine lv_iload_n hx hb dL_acknowledged_3 rfl (lv_at hl 1 rfl) ?_
  refine fw_xViN (thr := fun E => E = nIOB ∧ ¬ inr p0 0 (nI nw - 1)) (f := f) (g := oC y o gl) hx hb hml hown hts hE hw hd [.int p0] [.int 0, .ref o] (c_X8_acknowledged l D (fw_A A (oC y o gl)) y sa f hfl α κ nw no nt wk p0 hI hR) (cwV 1 hts gL_acknowledged_X8_acknowledged rfl rfl rfl (by decide +kernel) ⟨Nat.le_of_ble_eq_true rfl, Nat.le_of_ble_eq_true rfl⟩) (ci := 8) rfl rfl hR.x rfl hl.1 rfl (Nat.le_of_ble_eq_true rfl) dL_acknowledged_4 ⟨Nat.le_of_ble_eq_true rfl, Nat.le_of_ble_eq_true rfl⟩ (fun E ce q9 H locs hth hw hce hcv hcl => ?_) (fun r fc1 H locs hp hd1 hw => ?_)
  · have hth2 := hth
    obtain ⟨rfl, h⟩ := hth
    refine vx_catch (own := RL) (name := nIOB) (E := nIOB) hown [] (⟨0, 9, 12, 13⟩ : ExceptionTableEntry) [] htab (fun z hz => absurd hz List.not_mem_nil) rfl (by decide) (hts (.classLink RL 13 nIOB) (by decide +kernel)) (va_Nw.use rfl (hE.1.2.2.1 (.castable nIOB nIOB) (by decide +kernel))) hce hcv hcl ?_
    refine W.eq (g2 := F0 m 12 ls [.ref q9]) rfl ?_
    refine lv_astore_n (lv' := [(3, .ref q9), (0, .ref (α 0 0 0)), (1, .int p0), (2, .ref o)]) hx hb dL_acknowledged_12 rfl hl (by decide) rfl (fun ls hl => ?_)
    refine lv_iconst (v := 1) hx hb dL_acknowledged_13 (by decide) ?_
    exact fw_iret hx hb hr hlocks hw (Nat.le_of_ble_eq_true rfl) (Nat.le_of_ble_eq_true rfl) dL_acknowledged_14 (Or.inl ⟨rfl, hth2, rfl⟩)
  · refine lv_i2l (v := r.toInt64) hx hb dL_acknowledged_7 rfl ?_
    refine fw_last hx hb hE.1.1 hw (g := gl) (or_o hd1) 9 rfl (by have z : vp_in (nI 0) 1 := vp_in_nI (by decide) (by decide); exact z) dL_acknowledged_8 (fun H locs hw => ?_)
    rw [or_oU hd1] at hw
    refine lv_goto (tgt := 15) hx hb dL_acknowledged_9 (by decide) ?_
    refine lv_iconst (v := 0) hx hb dL_acknowledged_15 (by decide) ?_
    exact fw_iret hx hb hr hlocks hw (Nat.le_of_ble_eq_true rfl) (Nat.le_of_ble_eq_true rfl) dL_acknowledged_16 (Or.inr ⟨rfl, r, fc1, hp, dis_oC hd1, rfl⟩)

set_option maxHeartbeats 4000000 in
set_option maxRecDepth 100000 in
/-- the law: due -/
theorem c_L_due (l : Launch) (D : va_G) (A : Nat → Prop) (y : Nat → ClassId) (sa : Nat → Nat) (f : fw_F) (hfl : l.stackTraces = false) (α : Nat → Nat → Nat → Nat) (κ : cS) (nw no nt wk : Nat) (p0 p1 : Int32) (hI : Ic nw no nt wk κ) (hR : Rc y nw no nt wk κ α f) (o : Nat) (gl : Nat → Int64) (hd : fw_dis f (oC y o gl)) : Met l yL_due wsL_due ({ frames := 9, cells := 2, slots := 12, locals := 153 } : Room) (cPc D A y sa (fw_or f (oC y o gl)) [.ref (α 0 0 0), .int p0, .int p1, .ref o]) (cQi D A (fun k f1 => (k = 1 ∧ (fun E => (E = nIOB ∧ ¬ inr p0 0 (nI nw - 1)) ∨ (E = nIAE ∧ inr p0 0 (nI nw - 1) ∧ ¬ inr p1 0 30)) nIOB ∧ f1 = fw_or f (oC y o gl)) ∨ (k = 2 ∧ (fun E => (E = nIOB ∧ ¬ inr p0 0 (nI nw - 1)) ∨ (E = nIAE ∧ inr p0 0 (nI nw - 1) ∧ ¬ inr p1 0 30)) nIAE ∧ f1 = fw_or f (oC y o gl)) ∨ (k = 0 ∧ ∃ r fc1, (fun r f1 => ∃ w, w < nw ∧ p0 = nI w ∧ inr p1 0 30 ∧ r = duC κ w p1 p1 ∧ f1 = f) r fc1 ∧ fw_dis fc1 (oC y o (oU gl r)) ∧ f1 = fw_or fc1 (oC y o (oU gl r))))) 2 12 A := by
  refine fw_hmet (by decide) rfl [.ref (α 0 0 0), .int p0, .int p1, .ref o] (Nat.le_of_ble_eq_true rfl) ?_
  intro p e s m args below meth c ls I htab hE hw hl
  obtain ⟨hx, hb, hr, hts, hown, hlocks, hml⟩ := I
  have hown : s.vm.findClass RL = some m.cls := hown
  have hl : lv_has ls 5 [(0, .ref (α 0 0 0)), (1, .int p0), (2, .int p1), (3, .ref o)] := hl
  refine lv_aload_n hx hb dL_due_0 rfl (lv_at hl 3 rfl) ?_
  refine lv_iconst (v := 0) hx hb dL_due_1 (by decide) ?_
  refine lv_aload_n hx hb dL_due_2 rfl (lv_at hl 0 rfl) ?_
  refine lv_iload_n hx hb dL_due_3 rfl (lv_at hl 1 rfl) ?_
  refine lv_iload_n hx hb dL_due_4 rfl (lv_at hl 2 rfl) ?_
  refine fw_xViN (thr := fun E => (E = nIOB ∧ ¬ inr p0 0 (nI nw - 1)) ∨ (E = nIAE ∧ inr p0 0 (nI nw - 1) ∧ ¬ inr p1 0 30)) (f := f) (g := oC y o gl) hx hb hml hown hts hE hw hd [.int p0, .int p1] [.int 0, .ref o] (c_X8_due l D (fw_A A (oC y o gl)) y sa f hfl α κ nw no nt wk p0 p1 hI hR) (cwV 2 hts gL_due_X8_due rfl rfl rfl (by decide +kernel) ⟨Nat.le_of_ble_eq_true rfl, Nat.le_of_ble_eq_true rfl⟩) (ci := 8) rfl rfl hR.x rfl hl.1 rfl (Nat.le_of_ble_eq_true rfl) dL_due_5 ⟨Nat.le_of_ble_eq_true rfl, Nat.le_of_ble_eq_true rfl⟩ (fun E ce q9 H locs hth hw hce hcv hcl => ?_) (fun r fc1 H locs hp hd1 hw => ?_)
  · have hth2 := hth
    rcases hth with ⟨rfl, h⟩ | ⟨rfl, h⟩
    · refine vx_catch (own := RL) (name := nIOB) (E := nIOB) hown [] (⟨0, 10, 13, 13⟩ : ExceptionTableEntry) [(⟨0, 10, 17, 21⟩ : ExceptionTableEntry)] htab (fun z hz => absurd hz List.not_mem_nil) rfl (by decide) (hts (.classLink RL 13 nIOB) (by decide +kernel)) (va_Nw.use rfl (hE.1.2.2.1 (.castable nIOB nIOB) (by decide +kernel))) hce hcv hcl ?_
      refine W.eq (g2 := F0 m 13 ls [.ref q9]) rfl ?_
      refine lv_astore (lv' := [(4, .ref q9), (0, .ref (α 0 0 0)), (1, .int p0), (2, .int p1), (3, .ref o)]) hx hb dL_due_13 hl (by decide) rfl (fun ls hl => ?_)
      refine lv_iconst (v := 1) hx hb dL_due_15 (by decide) ?_
      exact fw_iret hx hb hr hlocks hw (Nat.le_of_ble_eq_true rfl) (Nat.le_of_ble_eq_true rfl) dL_due_16 (Or.inl ⟨rfl, hth2, rfl⟩)
    · refine vx_catch (own := RL) (name := nIAE) (E := nIAE) hown [(⟨0, 10, 13, 13⟩ : ExceptionTableEntry)] (⟨0, 10, 17, 21⟩ : ExceptionTableEntry) [] htab (fun z hz => by simp only [List.mem_cons, List.not_mem_nil, or_false] at hz; subst hz; exact Or.inr ⟨by decide, nIOB, hts (.classLink RL 13 nIOB) (by decide +kernel), hE.1.2.2.2.2.2.1⟩) rfl (by decide) (hts (.classLink RL 21 nIAE) (by decide +kernel)) (va_Nw.use rfl (hE.1.2.2.1 (.castable nIAE nIAE) (by decide +kernel))) hce hcv hcl ?_
      refine W.eq (g2 := F0 m 17 ls [.ref q9]) rfl ?_
      refine lv_astore (lv' := [(4, .ref q9), (0, .ref (α 0 0 0)), (1, .int p0), (2, .int p1), (3, .ref o)]) hx hb dL_due_17 hl (by decide) rfl (fun ls hl => ?_)
      refine lv_iconst (v := 2) hx hb dL_due_19 (by decide) ?_
      exact fw_iret hx hb hr hlocks hw (Nat.le_of_ble_eq_true rfl) (Nat.le_of_ble_eq_true rfl) dL_due_20 (Or.inr (Or.inl ⟨rfl, hth2, rfl⟩))
  · refine lv_i2l (v := r.toInt64) hx hb dL_due_8 rfl ?_
    refine fw_last hx hb hE.1.1 hw (g := gl) (or_o hd1) 9 rfl (by have z : vp_in (nI 0) 1 := vp_in_nI (by decide) (by decide); exact z) dL_due_9 (fun H locs hw => ?_)
    rw [or_oU hd1] at hw
    refine lv_goto (tgt := 21) hx hb dL_due_10 (by decide) ?_
    refine lv_iconst (v := 0) hx hb dL_due_21 (by decide) ?_
    exact fw_iret hx hb hr hlocks hw (Nat.le_of_ble_eq_true rfl) (Nat.le_of_ble_eq_true rfl) dL_due_22 (Or.inr (Or.inr (⟨rfl, r, fc1, hp, dis_oC hd1, rfl⟩)))

set_option maxHeartbeats 4000000 in
set_option maxRecDepth 100000 in
/-- the law: order -/
theorem c_L_order (l : Launch) (D : va_G) (A : Nat → Prop) (y : Nat → ClassId) (sa : Nat → Nat) (f : fw_F) (hfl : l.stackTraces = false) (α : Nat → Nat → Nat → Nat) (κ : cS) (nw no nt wk : Nat) (p0 p1 p2 p3 : Int32) (hI : Ic nw no nt wk κ) (hR : Rc y nw no nt wk κ α f) (o : Nat) (gl : Nat → Int64) (hd : fw_dis f (oC y o gl)) : Met l yL_order wsL_order ({ frames := 8, cells := 5, slots := 30, locals := 135 } : Room) (cPc D A y sa (fw_or f (oC y o gl)) [.ref (α 0 0 0), .int p0, .int p1, .int p2, .int p3, .ref o]) (cQi D A (fun k f1 => (k = 1 ∧ (fun E => (E = nIOB ∧ ¬ inr p0 0 (nI nw - 1)) ∨ (E = nIAE ∧ inr p0 0 (nI nw - 1) ∧ ¬ (inr p1 0 2 ∧ inr p2 1 10000000 ∧ inr p3 1 1000000)) ∨ (E = nISE ∧ inr p0 0 (nI nw - 1) ∧ (inr p1 0 2 ∧ inr p2 1 10000000 ∧ inr p3 1 1000000) ∧ no = 20)) nIOB ∧ f1 = fw_or f (oC y o gl)) ∨ (k = 2 ∧ (fun E => (E = nIOB ∧ ¬ inr p0 0 (nI nw - 1)) ∨ (E = nIAE ∧ inr p0 0 (nI nw - 1) ∧ ¬ (inr p1 0 2 ∧ inr p2 1 10000000 ∧ inr p3 1 1000000)) ∨ (E = nISE ∧ inr p0 0 (nI nw - 1) ∧ (inr p1 0 2 ∧ inr p2 1 10000000 ∧ inr p3 1 1000000) ∧ no = 20)) nIAE ∧ f1 = fw_or f (oC y o gl)) ∨ (k = 3 ∧ (fun E => (E = nIOB ∧ ¬ inr p0 0 (nI nw - 1)) ∨ (E = nIAE ∧ inr p0 0 (nI nw - 1) ∧ ¬ (inr p1 0 2 ∧ inr p2 1 10000000 ∧ inr p3 1 1000000)) ∨ (E = nISE ∧ inr p0 0 (nI nw - 1) ∧ (inr p1 0 2 ∧ inr p2 1 10000000 ∧ inr p3 1 1000000) ∧ no = 20)) nISE ∧ f1 = fw_or f (oC y o gl)) ∨ (k = 0 ∧ ∃ r fc1, (fun r f1 => ∃ w α2, w < nw ∧ p0 = nI w ∧ inr p1 0 2 ∧ inr p2 1 10000000 ∧ inr p3 1 1000000 ∧ no < 20 ∧ r = nI no ∧ α2 0 0 0 = α 0 0 0 ∧ Rc y nw (no + 1) nt wk (upF κ 15 no (orow w p1 p2 p3)) α2 f1) r fc1 ∧ fw_dis fc1 (oC y o (oU gl r)) ∧ f1 = fw_or fc1 (oC y o (oU gl r))))) 5 30 A := by
  refine fw_hmet (by decide) rfl [.ref (α 0 0 0), .int p0, .int p1, .int p2, .int p3, .ref o] (Nat.le_of_ble_eq_true rfl) ?_
  intro p e s m args below meth c ls I htab hE hw hl
  obtain ⟨hx, hb, hr, hts, hown, hlocks, hml⟩ := I
  have hown : s.vm.findClass RL = some m.cls := hown
  have hl : lv_has ls 7 [(0, .ref (α 0 0 0)), (1, .int p0), (2, .int p1), (3, .int p2), (4, .int p3), (5, .ref o)] := hl
  refine lv_aload hx hb dL_order_0 (lv_at hl 5 rfl) ?_
  refine lv_iconst (v := 0) hx hb dL_order_2 (by decide) ?_
  refine lv_aload_n hx hb dL_order_3 rfl (lv_at hl 0 rfl) ?_
  refine lv_iload_n hx hb dL_order_4 rfl (lv_at hl 1 rfl) ?_
  refine lv_iload_n hx hb dL_order_5 rfl (lv_at hl 2 rfl) ?_
  refine lv_iload_n hx hb dL_order_6 rfl (lv_at hl 3 rfl) ?_
  refine lv_iload hx hb dL_order_7 (lv_at hl 4 rfl) ?_
  refine fw_xViN (thr := fun E => (E = nIOB ∧ ¬ inr p0 0 (nI nw - 1)) ∨ (E = nIAE ∧ inr p0 0 (nI nw - 1) ∧ ¬ (inr p1 0 2 ∧ inr p2 1 10000000 ∧ inr p3 1 1000000)) ∨ (E = nISE ∧ inr p0 0 (nI nw - 1) ∧ (inr p1 0 2 ∧ inr p2 1 10000000 ∧ inr p3 1 1000000) ∧ no = 20)) (f := f) (g := oC y o gl) hx hb hml hown hts hE hw hd [.int p0, .int p1, .int p2, .int p3] [.int 0, .ref o] (c_X8_order l D (fw_A A (oC y o gl)) y sa f hfl α κ nw no nt wk p0 p1 p2 p3 hI hR) (cwV 4 hts gL_order_X8_order rfl rfl rfl (by decide +kernel) ⟨Nat.le_of_ble_eq_true rfl, Nat.le_of_ble_eq_true rfl⟩) (ci := 8) rfl rfl hR.x rfl hl.1 rfl (Nat.le_of_ble_eq_true rfl) dL_order_9 ⟨Nat.le_of_ble_eq_true rfl, Nat.le_of_ble_eq_true rfl⟩ (fun E ce q9 H locs hth hw hce hcv hcl => ?_) (fun r fc1 H locs hp hd1 hw => ?_)
  · have hth2 := hth
    rcases hth with ⟨rfl, h⟩ | ⟨rfl, h⟩ | ⟨rfl, h⟩
    · refine vx_catch (own := RL) (name := nIOB) (E := nIOB) hown [] (⟨0, 14, 17, 13⟩ : ExceptionTableEntry) [(⟨0, 14, 21, 21⟩ : ExceptionTableEntry), (⟨0, 14, 25, 15⟩ : ExceptionTableEntry)] htab (fun z hz => absurd hz List.not_mem_nil) rfl (by decide) (hts (.classLink RL 13 nIOB) (by decide +kernel)) (va_Nw.use rfl (hE.1.2.2.1 (.castable nIOB nIOB) (by decide +kernel))) hce hcv hcl ?_
      refine W.eq (g2 := F0 m 17 ls [.ref q9]) rfl ?_
      refine lv_astore (lv' := [(6, .ref q9), (0, .ref (α 0 0 0)), (1, .int p0), (2, .int p1), (3, .int p2), (4, .int p3), (5, .ref o)]) hx hb dL_order_17 hl (by decide) rfl (fun ls hl => ?_)
      refine lv_iconst (v := 1) hx hb dL_order_19 (by decide) ?_
      exact fw_iret hx hb hr hlocks hw (Nat.le_of_ble_eq_true rfl) (Nat.le_of_ble_eq_true rfl) dL_order_20 (Or.inl ⟨rfl, hth2, rfl⟩)
    · refine vx_catch (own := RL) (name := nIAE) (E := nIAE) hown [(⟨0, 14, 17, 13⟩ : ExceptionTableEntry)] (⟨0, 14, 21, 21⟩ : ExceptionTableEntry) [(⟨0, 14, 25, 15⟩ : ExceptionTableEntry)] htab (fun z hz => by simp only [List.mem_cons, List.not_mem_nil, or_false] at hz; subst hz; exact Or.inr ⟨by decide, nIOB, hts (.classLink RL 13 nIOB) (by decide +kernel), hE.1.2.2.2.2.2.1⟩) rfl (by decide) (hts (.classLink RL 21 nIAE) (by decide +kernel)) (va_Nw.use rfl (hE.1.2.2.1 (.castable nIAE nIAE) (by decide +kernel))) hce hcv hcl ?_
      refine W.eq (g2 := F0 m 21 ls [.ref q9]) rfl ?_
      refine lv_astore (lv' := [(6, .ref q9), (0, .ref (α 0 0 0)), (1, .int p0), (2, .int p1), (3, .int p2), (4, .int p3), (5, .ref o)]) hx hb dL_order_21 hl (by decide) rfl (fun ls hl => ?_)
      refine lv_iconst (v := 2) hx hb dL_order_23 (by decide) ?_
      exact fw_iret hx hb hr hlocks hw (Nat.le_of_ble_eq_true rfl) (Nat.le_of_ble_eq_true rfl) dL_order_24 (Or.inr (Or.inl ⟨rfl, hth2, rfl⟩))
    · refine vx_catch (own := RL) (name := nISE) (E := nISE) hown [(⟨0, 14, 17, 13⟩ : ExceptionTableEntry), (⟨0, 14, 21, 21⟩ : ExceptionTableEntry)] (⟨0, 14, 25, 15⟩ : ExceptionTableEntry) [] htab (fun z hz => by
          simp only [List.mem_cons, List.not_mem_nil, or_false] at hz
          rcases hz with rfl | rfl
          · exact Or.inr ⟨by decide, nIOB, hts (.classLink RL 13 nIOB) (by decide +kernel), hE.1.2.2.2.2.2.2.1⟩
          · exact Or.inr ⟨by decide, nIAE, hts (.classLink RL 21 nIAE) (by decide +kernel), hE.1.2.2.2.2.2.2.2⟩) rfl (by decide) (hts (.classLink RL 15 nISE) (by decide +kernel)) (va_Nw.use rfl (hE.1.2.2.1 (.castable nISE nISE) (by decide +kernel))) hce hcv hcl ?_
      refine W.eq (g2 := F0 m 25 ls [.ref q9]) rfl ?_
      refine lv_astore (lv' := [(6, .ref q9), (0, .ref (α 0 0 0)), (1, .int p0), (2, .int p1), (3, .int p2), (4, .int p3), (5, .ref o)]) hx hb dL_order_25 hl (by decide) rfl (fun ls hl => ?_)
      refine lv_iconst (v := 3) hx hb dL_order_27 (by decide) ?_
      exact fw_iret hx hb hr hlocks hw (Nat.le_of_ble_eq_true rfl) (Nat.le_of_ble_eq_true rfl) dL_order_28 (Or.inr (Or.inr (Or.inl ⟨rfl, hth2, rfl⟩)))
  · refine lv_i2l (v := r.toInt64) hx hb dL_order_12 rfl ?_
    refine fw_last hx hb hE.1.1 hw (g := gl) (or_o hd1) 9 rfl (by have z : vp_in (nI 0) 1 := vp_in_nI (by decide) (by decide); exact z) dL_order_13 (fun H locs hw => ?_)
    rw [or_oU hd1] at hw
    refine lv_goto (tgt := 29) hx hb dL_order_14 (by decide) ?_
    refine lv_iconst (v := 0) hx hb dL_order_29 (by decide) ?_
    exact fw_iret hx hb hr hlocks hw (Nat.le_of_ble_eq_true rfl) (Nat.le_of_ble_eq_true rfl) dL_order_30 (Or.inr (Or.inr (Or.inr (⟨rfl, r, fc1, hp, dis_oC hd1, rfl⟩))))

set_option maxHeartbeats 4000000 in
set_option maxRecDepth 100000 in
/-- the law: left -/
theorem c_L_left (l : Launch) (D : va_G) (A : Nat → Prop) (y : Nat → ClassId) (sa : Nat → Nat) (f : fw_F) (hfl : l.stackTraces = false) (α : Nat → Nat → Nat → Nat) (κ : cS) (nw no nt wk : Nat) (p0 : Int32) (hI : Ic nw no nt wk κ) (hR : Rc y nw no nt wk κ α f) (o : Nat) (gl : Nat → Int64) (hd : fw_dis f (oC y o gl)) : Met l yL_left wsL_left ({ frames := 7, cells := 1, slots := 6, locals := 110 } : Room) (cPc D A y sa (fw_or f (oC y o gl)) [.ref (α 0 0 0), .int p0, .ref o]) (cQi D A (fun k f1 => (k = 1 ∧ (fun E => E = nIOB ∧ ¬ inr p0 0 (nI no - 1)) nIOB ∧ f1 = fw_or f (oC y o gl)) ∨ (k = 0 ∧ ∃ r fc1, (fun r f1 => ∃ o, o < no ∧ p0 = nI o ∧ r = κ 15 o 2 ∧ f1 = f) r fc1 ∧ fw_dis fc1 (oC y o (oU gl r)) ∧ f1 = fw_or fc1 (oC y o (oU gl r))))) 1 6 A := by
  refine fw_hmet (by decide) rfl [.ref (α 0 0 0), .int p0, .ref o] (Nat.le_of_ble_eq_true rfl) ?_
  intro p e s m args below meth c ls I htab hE hw hl
  obtain ⟨hx, hb, hr, hts, hown, hlocks, hml⟩ := I
  have hown : s.vm.findClass RL = some m.cls := hown
  have hl : lv_has ls 4 [(0, .ref (α 0 0 0)), (1, .int p0), (2, .ref o)] := hl
  refine lv_aload_n hx hb dL_left_0 rfl (lv_at hl 2 rfl) ?_
  refine lv_iconst (v := 0) hx hb dL_left_1 (by decide) ?_
  refine lv_aload_n hx hb dL_left_2 rfl (lv_at hl 0 rfl) ?_
  refine lv_iload_n hx hb dL_left_3 rfl (lv_at hl 1 rfl) ?_
  refine fw_xViN (thr := fun E => E = nIOB ∧ ¬ inr p0 0 (nI no - 1)) (f := f) (g := oC y o gl) hx hb hml hown hts hE hw hd [.int p0] [.int 0, .ref o] (c_X8_left l D (fw_A A (oC y o gl)) y sa f hfl α κ nw no nt wk p0 hI hR) (cwV 1 hts gL_left_X8_left rfl rfl rfl (by decide +kernel) ⟨Nat.le_of_ble_eq_true rfl, Nat.le_of_ble_eq_true rfl⟩) (ci := 8) rfl rfl hR.x rfl hl.1 rfl (Nat.le_of_ble_eq_true rfl) dL_left_4 ⟨Nat.le_of_ble_eq_true rfl, Nat.le_of_ble_eq_true rfl⟩ (fun E ce q9 H locs hth hw hce hcv hcl => ?_) (fun r fc1 H locs hp hd1 hw => ?_)
  · have hth2 := hth
    obtain ⟨rfl, h⟩ := hth
    refine vx_catch (own := RL) (name := nIOB) (E := nIOB) hown [] (⟨0, 9, 12, 13⟩ : ExceptionTableEntry) [] htab (fun z hz => absurd hz List.not_mem_nil) rfl (by decide) (hts (.classLink RL 13 nIOB) (by decide +kernel)) (va_Nw.use rfl (hE.1.2.2.1 (.castable nIOB nIOB) (by decide +kernel))) hce hcv hcl ?_
    refine W.eq (g2 := F0 m 12 ls [.ref q9]) rfl ?_
    refine lv_astore_n (lv' := [(3, .ref q9), (0, .ref (α 0 0 0)), (1, .int p0), (2, .ref o)]) hx hb dL_left_12 rfl hl (by decide) rfl (fun ls hl => ?_)
    refine lv_iconst (v := 1) hx hb dL_left_13 (by decide) ?_
    exact fw_iret hx hb hr hlocks hw (Nat.le_of_ble_eq_true rfl) (Nat.le_of_ble_eq_true rfl) dL_left_14 (Or.inl ⟨rfl, hth2, rfl⟩)
  · refine lv_i2l (v := r.toInt64) hx hb dL_left_7 rfl ?_
    refine fw_last hx hb hE.1.1 hw (g := gl) (or_o hd1) 9 rfl (by have z : vp_in (nI 0) 1 := vp_in_nI (by decide) (by decide); exact z) dL_left_8 (fun H locs hw => ?_)
    rw [or_oU hd1] at hw
    refine lv_goto (tgt := 15) hx hb dL_left_9 (by decide) ?_
    refine lv_iconst (v := 0) hx hb dL_left_15 (by decide) ?_
    exact fw_iret hx hb hr hlocks hw (Nat.le_of_ble_eq_true rfl) (Nat.le_of_ble_eq_true rfl) dL_left_16 (Or.inr ⟨rfl, r, fc1, hp, dis_oC hd1, rfl⟩)

set_option maxHeartbeats 4000000 in
set_option maxRecDepth 100000 in
/-- the law: setFloor -/
theorem c_L_setFloor (l : Launch) (D : va_G) (A : Nat → Prop) (y : Nat → ClassId) (sa : Nat → Nat) (f : fw_F) (hfl : l.stackTraces = false) (α : Nat → Nat → Nat → Nat) (κ : cS) (nw no nt wk : Nat) (p0 : Int32) (hI : Ic nw no nt wk κ) (hR : Rc y nw no nt wk κ α f) (o : Nat) (gl : Nat → Int64) (hd : fw_dis f (oC y o gl)) : Met l yL_setFloor wsL_setFloor ({ frames := 8, cells := 1, slots := 6, locals := 132 } : Room) (cPc D A y sa (fw_or f (oC y o gl)) [.ref (α 0 0 0), .int p0, .ref o]) (cQi D A (fun k f1 => (k = 1 ∧ (fun E => E = nIAE ∧ ¬ inr p0 0 10000000) nIAE ∧ f1 = fw_or f (oC y o gl)) ∨ (k = 0 ∧ ∃ r fc1, (fun r f1 => inr p0 0 10000000 ∧ r = κ 0 0 0 ∧ Rc y nw no nt wk (upF κ 0 0 (va_up (κ 0 0) 0 p0)) α f1) r fc1 ∧ fw_dis fc1 (oC y o (oU gl r)) ∧ f1 = fw_or fc1 (oC y o (oU gl r))))) 1 6 A := by
  refine fw_hmet (by decide) rfl [.ref (α 0 0 0), .int p0, .ref o] (Nat.le_of_ble_eq_true rfl) ?_
  intro p e s m args below meth c ls I htab hE hw hl
  obtain ⟨hx, hb, hr, hts, hown, hlocks, hml⟩ := I
  have hown : s.vm.findClass RL = some m.cls := hown
  have hl : lv_has ls 4 [(0, .ref (α 0 0 0)), (1, .int p0), (2, .ref o)] := hl
  refine lv_aload_n hx hb dL_setFloor_0 rfl (lv_at hl 2 rfl) ?_
  refine lv_iconst (v := 0) hx hb dL_setFloor_1 (by decide) ?_
  refine lv_aload_n hx hb dL_setFloor_2 rfl (lv_at hl 0 rfl) ?_
  refine lv_iload_n hx hb dL_setFloor_3 rfl (lv_at hl 1 rfl) ?_
  refine fw_xViN (thr := fun E => E = nIAE ∧ ¬ inr p0 0 10000000) (f := f) (g := oC y o gl) hx hb hml hown hts hE hw hd [.int p0] [.int 0, .ref o] (c_X8_setFloor l D (fw_A A (oC y o gl)) y sa f hfl α κ nw no nt wk p0 hI hR) (cwV 1 hts gL_setFloor_X8_setFloor rfl rfl rfl (by decide +kernel) ⟨Nat.le_of_ble_eq_true rfl, Nat.le_of_ble_eq_true rfl⟩) (ci := 8) rfl rfl hR.x rfl hl.1 rfl (Nat.le_of_ble_eq_true rfl) dL_setFloor_4 ⟨Nat.le_of_ble_eq_true rfl, Nat.le_of_ble_eq_true rfl⟩ (fun E ce q9 H locs hth hw hce hcv hcl => ?_) (fun r fc1 H locs hp hd1 hw => ?_)
  · have hth2 := hth
    obtain ⟨rfl, h⟩ := hth
    refine vx_catch (own := RL) (name := nIAE) (E := nIAE) hown [] (⟨0, 9, 12, 21⟩ : ExceptionTableEntry) [] htab (fun z hz => absurd hz List.not_mem_nil) rfl (by decide) (hts (.classLink RL 21 nIAE) (by decide +kernel)) (va_Nw.use rfl (hE.1.2.2.1 (.castable nIAE nIAE) (by decide +kernel))) hce hcv hcl ?_
    refine W.eq (g2 := F0 m 12 ls [.ref q9]) rfl ?_
    refine lv_astore_n (lv' := [(3, .ref q9), (0, .ref (α 0 0 0)), (1, .int p0), (2, .ref o)]) hx hb dL_setFloor_12 rfl hl (by decide) rfl (fun ls hl => ?_)
    refine lv_iconst (v := 1) hx hb dL_setFloor_13 (by decide) ?_
    exact fw_iret hx hb hr hlocks hw (Nat.le_of_ble_eq_true rfl) (Nat.le_of_ble_eq_true rfl) dL_setFloor_14 (Or.inl ⟨rfl, hth2, rfl⟩)
  · refine lv_i2l (v := r.toInt64) hx hb dL_setFloor_7 rfl ?_
    refine fw_last hx hb hE.1.1 hw (g := gl) (or_o hd1) 9 rfl (by have z : vp_in (nI 0) 1 := vp_in_nI (by decide) (by decide); exact z) dL_setFloor_8 (fun H locs hw => ?_)
    rw [or_oU hd1] at hw
    refine lv_goto (tgt := 15) hx hb dL_setFloor_9 (by decide) ?_
    refine lv_iconst (v := 0) hx hb dL_setFloor_15 (by decide) ?_
    exact fw_iret hx hb hr hlocks hw (Nat.le_of_ble_eq_true rfl) (Nat.le_of_ble_eq_true rfl) dL_setFloor_16 (Or.inr ⟨rfl, r, fc1, hp, dis_oC hd1, rfl⟩)

set_option maxHeartbeats 4000000 in
set_option maxRecDepth 100000 in
/-- the law: fill -/
theorem c_L_fill (l : Launch) (D : va_G) (A : Nat → Prop) (y : Nat → ClassId) (sa : Nat → Nat) (f : fw_F) (hfl : l.stackTraces = false) (α : Nat → Nat → Nat → Nat) (κ : cS) (nw no nt wk : Nat) (p0 p1 : Int32) (hI : Ic nw no nt wk κ) (hR : Rc y nw no nt wk κ α f) (o : Nat) (gl : Nat → Int64) (hd : fw_dis f (oC y o gl)) : Met l yL_fill wsL_fill ({ frames := 8, cells := 3, slots := 18, locals := 133 } : Room) (cPc D A y sa (fw_or f (oC y o gl)) [.ref (α 0 0 0), .int p0, .int p1, .ref o]) (cQi D A (fun k f1 => (k = 1 ∧ (fun E => (E = nIOB ∧ ¬ inr p0 0 2) ∨ (E = nIAE ∧ inr p0 0 2 ∧ ¬ inr p1 1 10000000) ∨ (E = nISE ∧ inr p0 0 2 ∧ inr p1 1 10000000 ∧ nt = 40)) nIOB ∧ f1 = fw_or f (oC y o gl)) ∨ (k = 2 ∧ (fun E => (E = nIOB ∧ ¬ inr p0 0 2) ∨ (E = nIAE ∧ inr p0 0 2 ∧ ¬ inr p1 1 10000000) ∨ (E = nISE ∧ inr p0 0 2 ∧ inr p1 1 10000000 ∧ nt = 40)) nIAE ∧ f1 = fw_or f (oC y o gl)) ∨ (k = 3 ∧ (fun E => (E = nIOB ∧ ¬ inr p0 0 2) ∨ (E = nIAE ∧ inr p0 0 2 ∧ ¬ inr p1 1 10000000) ∨ (E = nISE ∧ inr p0 0 2 ∧ inr p1 1 10000000 ∧ nt = 40)) nISE ∧ f1 = fw_or f (oC y o gl)) ∨ (k = 0 ∧ ∃ r fc1, (fun r f1 => ∃ ev α2, ev < 3 ∧ p0 = nI ev ∧ inr p1 1 10000000 ∧ nt < 40 ∧ r = nI nt ∧ α2 0 0 0 = α 0 0 0 ∧ Rc y nw no (nt + 1) wk (upF (upF κ 16 nt (orow ev p1 0 0)) 1 ev (va_up (va_up ((upF κ 16 nt (orow ev p1 0 0)) 1 ev) 0 (κ 1 ev 0 + (p1 - (if p1 < κ 1 ev 1 then p1 else κ 1 ev 1)))) 1 (κ 1 ev 1 - (if p1 < κ 1 ev 1 then p1 else κ 1 ev 1)))) α2 f1) r fc1 ∧ fw_dis fc1 (oC y o (oU gl r)) ∧ f1 = fw_or fc1 (oC y o (oU gl r))))) 3 18 A := by
  refine fw_hmet (by decide) rfl [.ref (α 0 0 0), .int p0, .int p1, .ref o] (Nat.le_of_ble_eq_true rfl) ?_
  intro p e s m args below meth c ls I htab hE hw hl
  obtain ⟨hx, hb, hr, hts, hown, hlocks, hml⟩ := I
  have hown : s.vm.findClass RL = some m.cls := hown
  have hl : lv_has ls 5 [(0, .ref (α 0 0 0)), (1, .int p0), (2, .int p1), (3, .ref o)] := hl
  refine lv_aload_n hx hb dL_fill_0 rfl (lv_at hl 3 rfl) ?_
  refine lv_iconst (v := 0) hx hb dL_fill_1 (by decide) ?_
  refine lv_aload_n hx hb dL_fill_2 rfl (lv_at hl 0 rfl) ?_
  refine lv_iload_n hx hb dL_fill_3 rfl (lv_at hl 1 rfl) ?_
  refine lv_iload_n hx hb dL_fill_4 rfl (lv_at hl 2 rfl) ?_
  refine fw_xViN (thr := fun E => (E = nIOB ∧ ¬ inr p0 0 2) ∨ (E = nIAE ∧ inr p0 0 2 ∧ ¬ inr p1 1 10000000) ∨ (E = nISE ∧ inr p0 0 2 ∧ inr p1 1 10000000 ∧ nt = 40)) (f := f) (g := oC y o gl) hx hb hml hown hts hE hw hd [.int p0, .int p1] [.int 0, .ref o] (c_X8_fill l D (fw_A A (oC y o gl)) y sa f hfl α κ nw no nt wk p0 p1 hI hR) (cwV 2 hts gL_fill_X8_fill rfl rfl rfl (by decide +kernel) ⟨Nat.le_of_ble_eq_true rfl, Nat.le_of_ble_eq_true rfl⟩) (ci := 8) rfl rfl hR.x rfl hl.1 rfl (Nat.le_of_ble_eq_true rfl) dL_fill_5 ⟨Nat.le_of_ble_eq_true rfl, Nat.le_of_ble_eq_true rfl⟩ (fun E ce q9 H locs hth hw hce hcv hcl => ?_) (fun r fc1 H locs hp hd1 hw => ?_)
  · have hth2 := hth
    rcases hth with ⟨rfl, h⟩ | ⟨rfl, h⟩ | ⟨rfl, h⟩
    · refine vx_catch (own := RL) (name := nIOB) (E := nIOB) hown [] (⟨0, 10, 13, 13⟩ : ExceptionTableEntry) [(⟨0, 10, 17, 21⟩ : ExceptionTableEntry), (⟨0, 10, 21, 15⟩ : ExceptionTableEntry)] htab (fun z hz => absurd hz List.not_mem_nil) rfl (by decide) (hts (.classLink RL 13 nIOB) (by decide +kernel)) (va_Nw.use rfl (hE.1.2.2.1 (.castable nIOB nIOB) (by decide +kernel))) hce hcv hcl ?_
      refine W.eq (g2 := F0 m 13 ls [.ref q9]) rfl ?_
      refine lv_astore (lv' := [(4, .ref q9), (0, .ref (α 0 0 0)), (1, .int p0), (2, .int p1), (3, .ref o)]) hx hb dL_fill_13 hl (by decide) rfl (fun ls hl => ?_)
      refine lv_iconst (v := 1) hx hb dL_fill_15 (by decide) ?_
      exact fw_iret hx hb hr hlocks hw (Nat.le_of_ble_eq_true rfl) (Nat.le_of_ble_eq_true rfl) dL_fill_16 (Or.inl ⟨rfl, hth2, rfl⟩)
    · refine vx_catch (own := RL) (name := nIAE) (E := nIAE) hown [(⟨0, 10, 13, 13⟩ : ExceptionTableEntry)] (⟨0, 10, 17, 21⟩ : ExceptionTableEntry) [(⟨0, 10, 21, 15⟩ : ExceptionTableEntry)] htab (fun z hz => by simp only [List.mem_cons, List.not_mem_nil, or_false] at hz; subst hz; exact Or.inr ⟨by decide, nIOB, hts (.classLink RL 13 nIOB) (by decide +kernel), hE.1.2.2.2.2.2.1⟩) rfl (by decide) (hts (.classLink RL 21 nIAE) (by decide +kernel)) (va_Nw.use rfl (hE.1.2.2.1 (.castable nIAE nIAE) (by decide +kernel))) hce hcv hcl ?_
      refine W.eq (g2 := F0 m 17 ls [.ref q9]) rfl ?_
      refine lv_astore (lv' := [(4, .ref q9), (0, .ref (α 0 0 0)), (1, .int p0), (2, .int p1), (3, .ref o)]) hx hb dL_fill_17 hl (by decide) rfl (fun ls hl => ?_)
      refine lv_iconst (v := 2) hx hb dL_fill_19 (by decide) ?_
      exact fw_iret hx hb hr hlocks hw (Nat.le_of_ble_eq_true rfl) (Nat.le_of_ble_eq_true rfl) dL_fill_20 (Or.inr (Or.inl ⟨rfl, hth2, rfl⟩))
    · refine vx_catch (own := RL) (name := nISE) (E := nISE) hown [(⟨0, 10, 13, 13⟩ : ExceptionTableEntry), (⟨0, 10, 17, 21⟩ : ExceptionTableEntry)] (⟨0, 10, 21, 15⟩ : ExceptionTableEntry) [] htab (fun z hz => by
          simp only [List.mem_cons, List.not_mem_nil, or_false] at hz
          rcases hz with rfl | rfl
          · exact Or.inr ⟨by decide, nIOB, hts (.classLink RL 13 nIOB) (by decide +kernel), hE.1.2.2.2.2.2.2.1⟩
          · exact Or.inr ⟨by decide, nIAE, hts (.classLink RL 21 nIAE) (by decide +kernel), hE.1.2.2.2.2.2.2.2⟩) rfl (by decide) (hts (.classLink RL 15 nISE) (by decide +kernel)) (va_Nw.use rfl (hE.1.2.2.1 (.castable nISE nISE) (by decide +kernel))) hce hcv hcl ?_
      refine W.eq (g2 := F0 m 21 ls [.ref q9]) rfl ?_
      refine lv_astore (lv' := [(4, .ref q9), (0, .ref (α 0 0 0)), (1, .int p0), (2, .int p1), (3, .ref o)]) hx hb dL_fill_21 hl (by decide) rfl (fun ls hl => ?_)
      refine lv_iconst (v := 3) hx hb dL_fill_23 (by decide) ?_
      exact fw_iret hx hb hr hlocks hw (Nat.le_of_ble_eq_true rfl) (Nat.le_of_ble_eq_true rfl) dL_fill_24 (Or.inr (Or.inr (Or.inl ⟨rfl, hth2, rfl⟩)))
  · refine lv_i2l (v := r.toInt64) hx hb dL_fill_8 rfl ?_
    refine fw_last hx hb hE.1.1 hw (g := gl) (or_o hd1) 9 rfl (by have z : vp_in (nI 0) 1 := vp_in_nI (by decide) (by decide); exact z) dL_fill_9 (fun H locs hw => ?_)
    rw [or_oU hd1] at hw
    refine lv_goto (tgt := 25) hx hb dL_fill_10 (by decide) ?_
    refine lv_iconst (v := 0) hx hb dL_fill_25 (by decide) ?_
    exact fw_iret hx hb hr hlocks hw (Nat.le_of_ble_eq_true rfl) (Nat.le_of_ble_eq_true rfl) dL_fill_26 (Or.inr (Or.inr (Or.inr (⟨rfl, r, fc1, hp, dis_oC hd1, rfl⟩))))

set_option maxHeartbeats 4000000 in
set_option maxRecDepth 100000 in
/-- the law: bounce -/
theorem c_L_bounce (l : Launch) (D : va_G) (A : Nat → Prop) (y : Nat → ClassId) (sa : Nat → Nat) (f : fw_F) (hfl : l.stackTraces = false) (α : Nat → Nat → Nat → Nat) (κ : cS) (nw no nt wk : Nat) (p0 : Int32) (hI : Ic nw no nt wk κ) (hR : Rc y nw no nt wk κ α f) (o : Nat) (gl : Nat → Int64) (hd : fw_dis f (oC y o gl)) : Met l yL_bounce wsL_bounce ({ frames := 7, cells := 1, slots := 6, locals := 110 } : Room) (cPc D A y sa (fw_or f (oC y o gl)) [.ref (α 0 0 0), .int p0, .ref o]) (cQi D A (fun k f1 => (k = 1 ∧ (fun E => (E = nIOB ∧ ¬ inr p0 0 (nI nt - 1)) ∨ (E = nISE ∧ ∃ t, t < nt ∧ p0 = nI t ∧ ¬ κ 16 t 2 = 0)) nIOB ∧ f1 = fw_or f (oC y o gl)) ∨ (k = 2 ∧ (fun E => (E = nIOB ∧ ¬ inr p0 0 (nI nt - 1)) ∨ (E = nISE ∧ ∃ t, t < nt ∧ p0 = nI t ∧ ¬ κ 16 t 2 = 0)) nISE ∧ f1 = fw_or f (oC y o gl)) ∨ (k = 0 ∧ ∃ r fc1, (fun r f1 => ∃ j ev, j < nt ∧ ev < 3 ∧ p0 = nI j ∧ κ 16 j 0 = nI ev ∧ κ 16 j 2 = 0 ∧ r = κ 1 ev 1 + (κ 16 j 1 - (if κ 16 j 1 < κ 1 ev 0 then κ 16 j 1 else κ 1 ev 0)) ∧ Rc y nw no nt wk (upF (upF κ 16 j (va_up (κ 16 j) 2 1)) 1 ev (va_up (va_up ((upF κ 16 j (va_up (κ 16 j) 2 1)) 1 ev) 0 (κ 1 ev 0 - (if κ 16 j 1 < κ 1 ev 0 then κ 16 j 1 else κ 1 ev 0))) 1 (κ 1 ev 1 + (κ 16 j 1 - (if κ 16 j 1 < κ 1 ev 0 then κ 16 j 1 else κ 1 ev 0))))) α f1) r fc1 ∧ fw_dis fc1 (oC y o (oU gl r)) ∧ f1 = fw_or fc1 (oC y o (oU gl r))))) 1 6 A := by
  refine fw_hmet (by decide) rfl [.ref (α 0 0 0), .int p0, .ref o] (Nat.le_of_ble_eq_true rfl) ?_
  intro p e s m args below meth c ls I htab hE hw hl
  obtain ⟨hx, hb, hr, hts, hown, hlocks, hml⟩ := I
  have hown : s.vm.findClass RL = some m.cls := hown
  have hl : lv_has ls 4 [(0, .ref (α 0 0 0)), (1, .int p0), (2, .ref o)] := hl
  refine lv_aload_n hx hb dL_bounce_0 rfl (lv_at hl 2 rfl) ?_
  refine lv_iconst (v := 0) hx hb dL_bounce_1 (by decide) ?_
  refine lv_aload_n hx hb dL_bounce_2 rfl (lv_at hl 0 rfl) ?_
  refine lv_iload_n hx hb dL_bounce_3 rfl (lv_at hl 1 rfl) ?_
  refine fw_xViN (thr := fun E => (E = nIOB ∧ ¬ inr p0 0 (nI nt - 1)) ∨ (E = nISE ∧ ∃ t, t < nt ∧ p0 = nI t ∧ ¬ κ 16 t 2 = 0)) (f := f) (g := oC y o gl) hx hb hml hown hts hE hw hd [.int p0] [.int 0, .ref o] (c_X8_bounce l D (fw_A A (oC y o gl)) y sa f hfl α κ nw no nt wk p0 hI hR) (cwV 1 hts gL_bounce_X8_bounce rfl rfl rfl (by decide +kernel) ⟨Nat.le_of_ble_eq_true rfl, Nat.le_of_ble_eq_true rfl⟩) (ci := 8) rfl rfl hR.x rfl hl.1 rfl (Nat.le_of_ble_eq_true rfl) dL_bounce_4 ⟨Nat.le_of_ble_eq_true rfl, Nat.le_of_ble_eq_true rfl⟩ (fun E ce q9 H locs hth hw hce hcv hcl => ?_) (fun r fc1 H locs hp hd1 hw => ?_)
  · have hth2 := hth
    rcases hth with ⟨rfl, h⟩ | ⟨rfl, h⟩
    · refine vx_catch (own := RL) (name := nIOB) (E := nIOB) hown [] (⟨0, 9, 12, 13⟩ : ExceptionTableEntry) [(⟨0, 9, 15, 15⟩ : ExceptionTableEntry)] htab (fun z hz => absurd hz List.not_mem_nil) rfl (by decide) (hts (.classLink RL 13 nIOB) (by decide +kernel)) (va_Nw.use rfl (hE.1.2.2.1 (.castable nIOB nIOB) (by decide +kernel))) hce hcv hcl ?_
      refine W.eq (g2 := F0 m 12 ls [.ref q9]) rfl ?_
      refine lv_astore_n (lv' := [(3, .ref q9), (0, .ref (α 0 0 0)), (1, .int p0), (2, .ref o)]) hx hb dL_bounce_12 rfl hl (by decide) rfl (fun ls hl => ?_)
      refine lv_iconst (v := 1) hx hb dL_bounce_13 (by decide) ?_
      exact fw_iret hx hb hr hlocks hw (Nat.le_of_ble_eq_true rfl) (Nat.le_of_ble_eq_true rfl) dL_bounce_14 (Or.inl ⟨rfl, hth2, rfl⟩)
    · refine vx_catch (own := RL) (name := nISE) (E := nISE) hown [(⟨0, 9, 12, 13⟩ : ExceptionTableEntry)] (⟨0, 9, 15, 15⟩ : ExceptionTableEntry) [] htab (fun z hz => by simp only [List.mem_cons, List.not_mem_nil, or_false] at hz; subst hz; exact Or.inr ⟨by decide, nIOB, hts (.classLink RL 13 nIOB) (by decide +kernel), hE.1.2.2.2.2.2.2.1⟩) rfl (by decide) (hts (.classLink RL 15 nISE) (by decide +kernel)) (va_Nw.use rfl (hE.1.2.2.1 (.castable nISE nISE) (by decide +kernel))) hce hcv hcl ?_
      refine W.eq (g2 := F0 m 15 ls [.ref q9]) rfl ?_
      refine lv_astore_n (lv' := [(3, .ref q9), (0, .ref (α 0 0 0)), (1, .int p0), (2, .ref o)]) hx hb dL_bounce_15 rfl hl (by decide) rfl (fun ls hl => ?_)
      refine lv_iconst (v := 2) hx hb dL_bounce_16 (by decide) ?_
      exact fw_iret hx hb hr hlocks hw (Nat.le_of_ble_eq_true rfl) (Nat.le_of_ble_eq_true rfl) dL_bounce_17 (Or.inr (Or.inl ⟨rfl, hth2, rfl⟩))
  · refine lv_i2l (v := r.toInt64) hx hb dL_bounce_7 rfl ?_
    refine fw_last hx hb hE.1.1 hw (g := gl) (or_o hd1) 9 rfl (by have z : vp_in (nI 0) 1 := vp_in_nI (by decide) (by decide); exact z) dL_bounce_8 (fun H locs hw => ?_)
    rw [or_oU hd1] at hw
    refine lv_goto (tgt := 18) hx hb dL_bounce_9 (by decide) ?_
    refine lv_iconst (v := 0) hx hb dL_bounce_18 (by decide) ?_
    exact fw_iret hx hb hr hlocks hw (Nat.le_of_ble_eq_true rfl) (Nat.le_of_ble_eq_true rfl) dL_bounce_19 (Or.inr (Or.inr (⟨rfl, r, fc1, hp, dis_oC hd1, rfl⟩)))

set_option maxHeartbeats 4000000 in
set_option maxRecDepth 100000 in
/-- the law: pot -/
theorem c_L_pot (l : Launch) (D : va_G) (A : Nat → Prop) (y : Nat → ClassId) (sa : Nat → Nat) (f : fw_F) (hfl : l.stackTraces = false) (α : Nat → Nat → Nat → Nat) (κ : cS) (nw no nt wk : Nat) (p0 : Int32) (hI : Ic nw no nt wk κ) (hR : Rc y nw no nt wk κ α f) (o : Nat) (gl : Nat → Int64) (hd : fw_dis f (oC y o gl)) : Met l yL_pot wsL_pot ({ frames := 8, cells := 1, slots := 6, locals := 131 } : Room) (cPc D A y sa (fw_or f (oC y o gl)) [.ref (α 0 0 0), .int p0, .ref o]) (cQi D A (fun k f1 => (k = 1 ∧ (fun E => E = nIOB ∧ ¬ inr p0 0 2) nIOB ∧ f1 = fw_or f (oC y o gl)) ∨ (k = 0 ∧ ∃ r fc1, (fun r f1 => ∃ e, e < 3 ∧ p0 = nI e ∧ r = κ 1 e 0 ∧ f1 = f) r fc1 ∧ fw_dis fc1 (oC y o (oU gl r)) ∧ f1 = fw_or fc1 (oC y o (oU gl r))))) 1 6 A := by
  refine fw_hmet (by decide) rfl [.ref (α 0 0 0), .int p0, .ref o] (Nat.le_of_ble_eq_true rfl) ?_
  intro p e s m args below meth c ls I htab hE hw hl
  obtain ⟨hx, hb, hr, hts, hown, hlocks, hml⟩ := I
  have hown : s.vm.findClass RL = some m.cls := hown
  have hl : lv_has ls 4 [(0, .ref (α 0 0 0)), (1, .int p0), (2, .ref o)] := hl
  refine lv_aload_n hx hb dL_pot_0 rfl (lv_at hl 2 rfl) ?_
  refine lv_iconst (v := 0) hx hb dL_pot_1 (by decide) ?_
  refine lv_aload_n hx hb dL_pot_2 rfl (lv_at hl 0 rfl) ?_
  refine lv_iload_n hx hb dL_pot_3 rfl (lv_at hl 1 rfl) ?_
  refine fw_xViN (thr := fun E => E = nIOB ∧ ¬ inr p0 0 2) (f := f) (g := oC y o gl) hx hb hml hown hts hE hw hd [.int p0] [.int 0, .ref o] (c_X8_pot l D (fw_A A (oC y o gl)) y sa f hfl α κ nw no nt wk p0 hI hR) (cwV 1 hts gL_pot_X8_pot rfl rfl rfl (by decide +kernel) ⟨Nat.le_of_ble_eq_true rfl, Nat.le_of_ble_eq_true rfl⟩) (ci := 8) rfl rfl hR.x rfl hl.1 rfl (Nat.le_of_ble_eq_true rfl) dL_pot_4 ⟨Nat.le_of_ble_eq_true rfl, Nat.le_of_ble_eq_true rfl⟩ (fun E ce q9 H locs hth hw hce hcv hcl => ?_) (fun r fc1 H locs hp hd1 hw => ?_)
  · have hth2 := hth
    obtain ⟨rfl, h⟩ := hth
    refine vx_catch (own := RL) (name := nIOB) (E := nIOB) hown [] (⟨0, 9, 12, 13⟩ : ExceptionTableEntry) [] htab (fun z hz => absurd hz List.not_mem_nil) rfl (by decide) (hts (.classLink RL 13 nIOB) (by decide +kernel)) (va_Nw.use rfl (hE.1.2.2.1 (.castable nIOB nIOB) (by decide +kernel))) hce hcv hcl ?_
    refine W.eq (g2 := F0 m 12 ls [.ref q9]) rfl ?_
    refine lv_astore_n (lv' := [(3, .ref q9), (0, .ref (α 0 0 0)), (1, .int p0), (2, .ref o)]) hx hb dL_pot_12 rfl hl (by decide) rfl (fun ls hl => ?_)
    refine lv_iconst (v := 1) hx hb dL_pot_13 (by decide) ?_
    exact fw_iret hx hb hr hlocks hw (Nat.le_of_ble_eq_true rfl) (Nat.le_of_ble_eq_true rfl) dL_pot_14 (Or.inl ⟨rfl, hth2, rfl⟩)
  · refine lv_i2l (v := r.toInt64) hx hb dL_pot_7 rfl ?_
    refine fw_last hx hb hE.1.1 hw (g := gl) (or_o hd1) 9 rfl (by have z : vp_in (nI 0) 1 := vp_in_nI (by decide) (by decide); exact z) dL_pot_8 (fun H locs hw => ?_)
    rw [or_oU hd1] at hw
    refine lv_goto (tgt := 15) hx hb dL_pot_9 (by decide) ?_
    refine lv_iconst (v := 0) hx hb dL_pot_15 (by decide) ?_
    exact fw_iret hx hb hr hlocks hw (Nat.le_of_ble_eq_true rfl) (Nat.le_of_ble_eq_true rfl) dL_pot_16 (Or.inr ⟨rfl, r, fc1, hp, dis_oC hd1, rfl⟩)

set_option maxHeartbeats 4000000 in
set_option maxRecDepth 100000 in
/-- the law: shortage -/
theorem c_L_shortage (l : Launch) (D : va_G) (A : Nat → Prop) (y : Nat → ClassId) (sa : Nat → Nat) (f : fw_F) (hfl : l.stackTraces = false) (α : Nat → Nat → Nat → Nat) (κ : cS) (nw no nt wk : Nat) (p0 : Int32) (hI : Ic nw no nt wk κ) (hR : Rc y nw no nt wk κ α f) (o : Nat) (gl : Nat → Int64) (hd : fw_dis f (oC y o gl)) : Met l yL_shortage wsL_shortage ({ frames := 8, cells := 1, slots := 6, locals := 131 } : Room) (cPc D A y sa (fw_or f (oC y o gl)) [.ref (α 0 0 0), .int p0, .ref o]) (cQi D A (fun k f1 => (k = 1 ∧ (fun E => E = nIOB ∧ ¬ inr p0 0 2) nIOB ∧ f1 = fw_or f (oC y o gl)) ∨ (k = 0 ∧ ∃ r fc1, (fun r f1 => ∃ e, e < 3 ∧ p0 = nI e ∧ r = κ 1 e 1 ∧ f1 = f) r fc1 ∧ fw_dis fc1 (oC y o (oU gl r)) ∧ f1 = fw_or fc1 (oC y o (oU gl r))))) 1 6 A := by
  refine fw_hmet (by decide) rfl [.ref (α 0 0 0), .int p0, .ref o] (Nat.le_of_ble_eq_true rfl) ?_
  intro p e s m args below meth c ls I htab hE hw hl
  obtain ⟨hx, hb, hr, hts, hown, hlocks, hml⟩ := I
  have hown : s.vm.findClass RL = some m.cls := hown
  have hl : lv_has ls 4 [(0, .ref (α 0 0 0)), (1, .int p0), (2, .ref o)] := hl
  refine lv_aload_n hx hb dL_shortage_0 rfl (lv_at hl 2 rfl) ?_
  refine lv_iconst (v := 0) hx hb dL_shortage_1 (by decide) ?_
  refine lv_aload_n hx hb dL_shortage_2 rfl (lv_at hl 0 rfl) ?_
  refine lv_iload_n hx hb dL_shortage_3 rfl (lv_at hl 1 rfl) ?_
  refine fw_xViN (thr := fun E => E = nIOB ∧ ¬ inr p0 0 2) (f := f) (g := oC y o gl) hx hb hml hown hts hE hw hd [.int p0] [.int 0, .ref o] (c_X8_shortage l D (fw_A A (oC y o gl)) y sa f hfl α κ nw no nt wk p0 hI hR) (cwV 1 hts gL_shortage_X8_shortage rfl rfl rfl (by decide +kernel) ⟨Nat.le_of_ble_eq_true rfl, Nat.le_of_ble_eq_true rfl⟩) (ci := 8) rfl rfl hR.x rfl hl.1 rfl (Nat.le_of_ble_eq_true rfl) dL_shortage_4 ⟨Nat.le_of_ble_eq_true rfl, Nat.le_of_ble_eq_true rfl⟩ (fun E ce q9 H locs hth hw hce hcv hcl => ?_) (fun r fc1 H locs hp hd1 hw => ?_)
  · have hth2 := hth
    obtain ⟨rfl, h⟩ := hth
    refine vx_catch (own := RL) (name := nIOB) (E := nIOB) hown [] (⟨0, 9, 12, 13⟩ : ExceptionTableEntry) [] htab (fun z hz => absurd hz List.not_mem_nil) rfl (by decide) (hts (.classLink RL 13 nIOB) (by decide +kernel)) (va_Nw.use rfl (hE.1.2.2.1 (.castable nIOB nIOB) (by decide +kernel))) hce hcv hcl ?_
    refine W.eq (g2 := F0 m 12 ls [.ref q9]) rfl ?_
    refine lv_astore_n (lv' := [(3, .ref q9), (0, .ref (α 0 0 0)), (1, .int p0), (2, .ref o)]) hx hb dL_shortage_12 rfl hl (by decide) rfl (fun ls hl => ?_)
    refine lv_iconst (v := 1) hx hb dL_shortage_13 (by decide) ?_
    exact fw_iret hx hb hr hlocks hw (Nat.le_of_ble_eq_true rfl) (Nat.le_of_ble_eq_true rfl) dL_shortage_14 (Or.inl ⟨rfl, hth2, rfl⟩)
  · refine lv_i2l (v := r.toInt64) hx hb dL_shortage_7 rfl ?_
    refine fw_last hx hb hE.1.1 hw (g := gl) (or_o hd1) 9 rfl (by have z : vp_in (nI 0) 1 := vp_in_nI (by decide) (by decide); exact z) dL_shortage_8 (fun H locs hw => ?_)
    rw [or_oU hd1] at hw
    refine lv_goto (tgt := 15) hx hb dL_shortage_9 (by decide) ?_
    refine lv_iconst (v := 0) hx hb dL_shortage_15 (by decide) ?_
    exact fw_iret hx hb hr hlocks hw (Nat.le_of_ble_eq_true rfl) (Nat.le_of_ble_eq_true rfl) dL_shortage_16 (Or.inr ⟨rfl, r, fc1, hp, dis_oC hd1, rfl⟩)

set_option maxHeartbeats 4000000 in
set_option maxRecDepth 100000 in
/-- the law: close -/
theorem c_L_close (l : Launch) (D : va_G) (A : Nat → Prop) (y : Nat → ClassId) (sa : Nat → Nat) (f : fw_F) (hfl : l.stackTraces = false) (α : Nat → Nat → Nat → Nat) (κ : cS) (nw no nt wk : Nat) (hno10 : wk < 31 → ∀ w, w < nw → ¬ κ 10 w wk = 1) (hI : Ic nw no nt wk κ) (hR : Rc y nw no nt wk κ α f) (o : Nat) (gl : Nat → Int64) (hd : fw_dis f (oC y o gl)) : Met l yL_close wsL_close ({ frames := 7, cells := 8, slots := 32, locals := 148 } : Room) (cPc D A y sa (fw_or f (oC y o gl)) [.ref (α 0 0 0), .ref o]) (cQi D A (fun k f1 => (k = 1 ∧ (fun E => E = nISE ∧ wk = 31) nISE ∧ f1 = fw_or f (oC y o gl)) ∨ (k = 0 ∧ ∃ r fc1, (fun r f1 => wk < 31 ∧ r = (csC κ nw no wk 8).2 ∧ ∃ α2, α2 0 0 0 = α 0 0 0 ∧ Rc y nw no nt (wk + 1) (csC κ nw no wk 8).1 α2 f1) r fc1 ∧ fw_dis fc1 (oC y o (oU gl r)) ∧ f1 = fw_or fc1 (oC y o (oU gl r))))) 8 32 A := by
  refine fw_hmet (by decide) rfl [.ref (α 0 0 0), .ref o] (Nat.le_of_ble_eq_true rfl) ?_
  intro p e s m args below meth c ls I htab hE hw hl
  obtain ⟨hx, hb, hr, hts, hown, hlocks, hml⟩ := I
  have hown : s.vm.findClass RL = some m.cls := hown
  have hl : lv_has ls 3 [(0, .ref (α 0 0 0)), (1, .ref o)] := hl
  refine lv_aload_n hx hb dL_close_0 rfl (lv_at hl 1 rfl) ?_
  refine lv_iconst (v := 0) hx hb dL_close_1 (by decide) ?_
  refine lv_aload_n hx hb dL_close_2 rfl (lv_at hl 0 rfl) ?_
  refine fw_xViN (thr := fun E => E = nISE ∧ wk = 31) (f := f) (g := oC y o gl) hx hb hml hown hts hE hw hd [] [.int 0, .ref o] (c_X8_close l D (fw_A A (oC y o gl)) y sa f hfl α κ nw no nt wk hno10 hI hR) (cwV 0 hts gL_close_X8_close rfl rfl rfl (by decide +kernel) ⟨Nat.le_of_ble_eq_true rfl, Nat.le_of_ble_eq_true rfl⟩) (ci := 8) rfl rfl hR.x rfl hl.1 rfl (Nat.le_of_ble_eq_true rfl) dL_close_3 ⟨Nat.le_of_ble_eq_true rfl, Nat.le_of_ble_eq_true rfl⟩ (fun E ce q9 H locs hth hw hce hcv hcl => ?_) (fun r fc1 H locs hp hd1 hw => ?_)
  · have hth2 := hth
    obtain ⟨rfl, h⟩ := hth
    refine vx_catch (own := RL) (name := nISE) (E := nISE) hown [] (⟨0, 8, 11, 15⟩ : ExceptionTableEntry) [] htab (fun z hz => absurd hz List.not_mem_nil) rfl (by decide) (hts (.classLink RL 15 nISE) (by decide +kernel)) (va_Nw.use rfl (hE.1.2.2.1 (.castable nISE nISE) (by decide +kernel))) hce hcv hcl ?_
    refine W.eq (g2 := F0 m 11 ls [.ref q9]) rfl ?_
    refine lv_astore_n (lv' := [(2, .ref q9), (0, .ref (α 0 0 0)), (1, .ref o)]) hx hb dL_close_11 rfl hl (by decide) rfl (fun ls hl => ?_)
    refine lv_iconst (v := 1) hx hb dL_close_12 (by decide) ?_
    exact fw_iret hx hb hr hlocks hw (Nat.le_of_ble_eq_true rfl) (Nat.le_of_ble_eq_true rfl) dL_close_13 (Or.inl ⟨rfl, hth2, rfl⟩)
  · refine lv_i2l (v := r.toInt64) hx hb dL_close_6 rfl ?_
    refine fw_last hx hb hE.1.1 hw (g := gl) (or_o hd1) 9 rfl (by have z : vp_in (nI 0) 1 := vp_in_nI (by decide) (by decide); exact z) dL_close_7 (fun H locs hw => ?_)
    rw [or_oU hd1] at hw
    refine lv_goto (tgt := 14) hx hb dL_close_8 (by decide) ?_
    refine lv_iconst (v := 0) hx hb dL_close_14 (by decide) ?_
    exact fw_iret hx hb hr hlocks hw (Nat.le_of_ble_eq_true rfl) (Nat.le_of_ble_eq_true rfl) dL_close_15 (Or.inr ⟨rfl, r, fc1, hp, dis_oC hd1, rfl⟩)

set_option maxHeartbeats 4000000 in
set_option maxRecDepth 100000 in
/-- the law: slip -/
theorem c_L_slip (l : Launch) (D : va_G) (A : Nat → Prop) (y : Nat → ClassId) (sa : Nat → Nat) (f : fw_F) (hfl : l.stackTraces = false) (α : Nat → Nat → Nat → Nat) (κ : cS) (nw no nt wk : Nat) (p0 p1 p2 : Int32) (hI : Ic nw no nt wk κ) (hR : Rc y nw no nt wk κ α f) (o : Nat) (gl : Nat → Int64) (hd : fw_dis f (oC y o gl)) : Met l yL_slip wsL_slip ({ frames := 9, cells := 3, slots := 18, locals := 154 } : Room) (cPc D A y sa (fw_or f (oC y o gl)) [.ref (α 0 0 0), .int p0, .int p1, .int p2, .ref o]) (cQi D A (fun k f1 => (k = 1 ∧ (fun E => (E = nIOB ∧ ¬ inr p0 0 (nI nw - 1)) ∨ (E = nIAE ∧ inr p0 0 (nI nw - 1) ∧ ¬ (inr p1 0 30 ∧ inr p2 0 3))) nIOB ∧ f1 = fw_or f (oC y o gl)) ∨ (k = 2 ∧ (fun E => (E = nIOB ∧ ¬ inr p0 0 (nI nw - 1)) ∨ (E = nIAE ∧ inr p0 0 (nI nw - 1) ∧ ¬ (inr p1 0 30 ∧ inr p2 0 3))) nIAE ∧ f1 = fw_or f (oC y o gl)) ∨ (k = 0 ∧ ∃ r fc1, (fun r f1 => ∃ w kv pv, w < nw ∧ kv ≤ 30 ∧ pv ≤ 3 ∧ p0 = nI w ∧ p1 = nI kv ∧ p2 = nI pv ∧ r = spC κ w kv pv ∧ f1 = f) r fc1 ∧ fw_dis fc1 (oC y o (oU gl r)) ∧ f1 = fw_or fc1 (oC y o (oU gl r))))) 3 18 A := by
  refine fw_hmet (by decide) rfl [.ref (α 0 0 0), .int p0, .int p1, .int p2, .ref o] (Nat.le_of_ble_eq_true rfl) ?_
  intro p e s m args below meth c ls I htab hE hw hl
  obtain ⟨hx, hb, hr, hts, hown, hlocks, hml⟩ := I
  have hown : s.vm.findClass RL = some m.cls := hown
  have hl : lv_has ls 6 [(0, .ref (α 0 0 0)), (1, .int p0), (2, .int p1), (3, .int p2), (4, .ref o)] := hl
  refine lv_aload hx hb dL_slip_0 (lv_at hl 4 rfl) ?_
  refine lv_iconst (v := 0) hx hb dL_slip_2 (by decide) ?_
  refine lv_aload_n hx hb dL_slip_3 rfl (lv_at hl 0 rfl) ?_
  refine lv_iload_n hx hb dL_slip_4 rfl (lv_at hl 1 rfl) ?_
  refine lv_iload_n hx hb dL_slip_5 rfl (lv_at hl 2 rfl) ?_
  refine lv_iload_n hx hb dL_slip_6 rfl (lv_at hl 3 rfl) ?_
  refine fw_xViN (thr := fun E => (E = nIOB ∧ ¬ inr p0 0 (nI nw - 1)) ∨ (E = nIAE ∧ inr p0 0 (nI nw - 1) ∧ ¬ (inr p1 0 30 ∧ inr p2 0 3))) (f := f) (g := oC y o gl) hx hb hml hown hts hE hw hd [.int p0, .int p1, .int p2] [.int 0, .ref o] (c_X8_slip l D (fw_A A (oC y o gl)) y sa f hfl α κ nw no nt wk p0 p1 p2 hI hR) (cwV 3 hts gL_slip_X8_slip rfl rfl rfl (by decide +kernel) ⟨Nat.le_of_ble_eq_true rfl, Nat.le_of_ble_eq_true rfl⟩) (ci := 8) rfl rfl hR.x rfl hl.1 rfl (Nat.le_of_ble_eq_true rfl) dL_slip_7 ⟨Nat.le_of_ble_eq_true rfl, Nat.le_of_ble_eq_true rfl⟩ (fun E ce q9 H locs hth hw hce hcv hcl => ?_) (fun r fc1 H locs hp hd1 hw => ?_)
  · have hth2 := hth
    rcases hth with ⟨rfl, h⟩ | ⟨rfl, h⟩
    · refine vx_catch (own := RL) (name := nIOB) (E := nIOB) hown [] (⟨0, 12, 15, 13⟩ : ExceptionTableEntry) [(⟨0, 12, 19, 21⟩ : ExceptionTableEntry)] htab (fun z hz => absurd hz List.not_mem_nil) rfl (by decide) (hts (.classLink RL 13 nIOB) (by decide +kernel)) (va_Nw.use rfl (hE.1.2.2.1 (.castable nIOB nIOB) (by decide +kernel))) hce hcv hcl ?_
      refine W.eq (g2 := F0 m 15 ls [.ref q9]) rfl ?_
      refine lv_astore (lv' := [(5, .ref q9), (0, .ref (α 0 0 0)), (1, .int p0), (2, .int p1), (3, .int p2), (4, .ref o)]) hx hb dL_slip_15 hl (by decide) rfl (fun ls hl => ?_)
      refine lv_iconst (v := 1) hx hb dL_slip_17 (by decide) ?_
      exact fw_iret hx hb hr hlocks hw (Nat.le_of_ble_eq_true rfl) (Nat.le_of_ble_eq_true rfl) dL_slip_18 (Or.inl ⟨rfl, hth2, rfl⟩)
    · refine vx_catch (own := RL) (name := nIAE) (E := nIAE) hown [(⟨0, 12, 15, 13⟩ : ExceptionTableEntry)] (⟨0, 12, 19, 21⟩ : ExceptionTableEntry) [] htab (fun z hz => by simp only [List.mem_cons, List.not_mem_nil, or_false] at hz; subst hz; exact Or.inr ⟨by decide, nIOB, hts (.classLink RL 13 nIOB) (by decide +kernel), hE.1.2.2.2.2.2.1⟩) rfl (by decide) (hts (.classLink RL 21 nIAE) (by decide +kernel)) (va_Nw.use rfl (hE.1.2.2.1 (.castable nIAE nIAE) (by decide +kernel))) hce hcv hcl ?_
      refine W.eq (g2 := F0 m 19 ls [.ref q9]) rfl ?_
      refine lv_astore (lv' := [(5, .ref q9), (0, .ref (α 0 0 0)), (1, .int p0), (2, .int p1), (3, .int p2), (4, .ref o)]) hx hb dL_slip_19 hl (by decide) rfl (fun ls hl => ?_)
      refine lv_iconst (v := 2) hx hb dL_slip_21 (by decide) ?_
      exact fw_iret hx hb hr hlocks hw (Nat.le_of_ble_eq_true rfl) (Nat.le_of_ble_eq_true rfl) dL_slip_22 (Or.inr (Or.inl ⟨rfl, hth2, rfl⟩))
  · refine lv_i2l (v := r.toInt64) hx hb dL_slip_10 rfl ?_
    refine fw_last hx hb hE.1.1 hw (g := gl) (or_o hd1) 9 rfl (by have z : vp_in (nI 0) 1 := vp_in_nI (by decide) (by decide); exact z) dL_slip_11 (fun H locs hw => ?_)
    rw [or_oU hd1] at hw
    refine lv_goto (tgt := 23) hx hb dL_slip_12 (by decide) ?_
    refine lv_iconst (v := 0) hx hb dL_slip_23 (by decide) ?_
    exact fw_iret hx hb hr hlocks hw (Nat.le_of_ble_eq_true rfl) (Nat.le_of_ble_eq_true rfl) dL_slip_24 (Or.inr (Or.inr (⟨rfl, r, fc1, hp, dis_oC hd1, rfl⟩)))

set_option maxHeartbeats 4000000 in
set_option maxRecDepth 100000 in
/-- the law: toTakeBack -/
theorem c_L_toTakeBack (l : Launch) (D : va_G) (A : Nat → Prop) (y : Nat → ClassId) (sa : Nat → Nat) (f : fw_F) (hfl : l.stackTraces = false) (α : Nat → Nat → Nat → Nat) (κ : cS) (nw no nt wk : Nat) (p0 : Int32) (hI : Ic nw no nt wk κ) (hR : Rc y nw no nt wk κ α f) (o : Nat) (gl : Nat → Int64) (hd : fw_dis f (oC y o gl)) : Met l yL_toTakeBack wsL_toTakeBack ({ frames := 8, cells := 1, slots := 6, locals := 131 } : Room) (cPc D A y sa (fw_or f (oC y o gl)) [.ref (α 0 0 0), .int p0, .ref o]) (cQi D A (fun k f1 => (k = 1 ∧ (fun E => E = nIOB ∧ ¬ inr p0 0 (nI nw - 1)) nIOB ∧ f1 = fw_or f (oC y o gl)) ∨ (k = 0 ∧ ∃ r fc1, (fun r f1 => ∃ w, w < nw ∧ p0 = nI w ∧ r = κ 4 w 3 ∧ f1 = f) r fc1 ∧ fw_dis fc1 (oC y o (oU gl r)) ∧ f1 = fw_or fc1 (oC y o (oU gl r))))) 1 6 A := by
  refine fw_hmet (by decide) rfl [.ref (α 0 0 0), .int p0, .ref o] (Nat.le_of_ble_eq_true rfl) ?_
  intro p e s m args below meth c ls I htab hE hw hl
  obtain ⟨hx, hb, hr, hts, hown, hlocks, hml⟩ := I
  have hown : s.vm.findClass RL = some m.cls := hown
  have hl : lv_has ls 4 [(0, .ref (α 0 0 0)), (1, .int p0), (2, .ref o)] := hl
  refine lv_aload_n hx hb dL_toTakeBack_0 rfl (lv_at hl 2 rfl) ?_
  refine lv_iconst (v := 0) hx hb dL_toTakeBack_1 (by decide) ?_
  refine lv_aload_n hx hb dL_toTakeBack_2 rfl (lv_at hl 0 rfl) ?_
  refine lv_iload_n hx hb dL_toTakeBack_3 rfl (lv_at hl 1 rfl) ?_
  refine fw_xViN (thr := fun E => E = nIOB ∧ ¬ inr p0 0 (nI nw - 1)) (f := f) (g := oC y o gl) hx hb hml hown hts hE hw hd [.int p0] [.int 0, .ref o] (c_X8_toTakeBack l D (fw_A A (oC y o gl)) y sa f hfl α κ nw no nt wk p0 hI hR) (cwV 1 hts gL_toTakeBack_X8_toTakeBack rfl rfl rfl (by decide +kernel) ⟨Nat.le_of_ble_eq_true rfl, Nat.le_of_ble_eq_true rfl⟩) (ci := 8) rfl rfl hR.x rfl hl.1 rfl (Nat.le_of_ble_eq_true rfl) dL_toTakeBack_4 ⟨Nat.le_of_ble_eq_true rfl, Nat.le_of_ble_eq_true rfl⟩ (fun E ce q9 H locs hth hw hce hcv hcl => ?_) (fun r fc1 H locs hp hd1 hw => ?_)
  · have hth2 := hth
    obtain ⟨rfl, h⟩ := hth
    refine vx_catch (own := RL) (name := nIOB) (E := nIOB) hown [] (⟨0, 9, 12, 13⟩ : ExceptionTableEntry) [] htab (fun z hz => absurd hz List.not_mem_nil) rfl (by decide) (hts (.classLink RL 13 nIOB) (by decide +kernel)) (va_Nw.use rfl (hE.1.2.2.1 (.castable nIOB nIOB) (by decide +kernel))) hce hcv hcl ?_
    refine W.eq (g2 := F0 m 12 ls [.ref q9]) rfl ?_
    refine lv_astore_n (lv' := [(3, .ref q9), (0, .ref (α 0 0 0)), (1, .int p0), (2, .ref o)]) hx hb dL_toTakeBack_12 rfl hl (by decide) rfl (fun ls hl => ?_)
    refine lv_iconst (v := 1) hx hb dL_toTakeBack_13 (by decide) ?_
    exact fw_iret hx hb hr hlocks hw (Nat.le_of_ble_eq_true rfl) (Nat.le_of_ble_eq_true rfl) dL_toTakeBack_14 (Or.inl ⟨rfl, hth2, rfl⟩)
  · refine lv_i2l (v := r.toInt64) hx hb dL_toTakeBack_7 rfl ?_
    refine fw_last hx hb hE.1.1 hw (g := gl) (or_o hd1) 9 rfl (by have z : vp_in (nI 0) 1 := vp_in_nI (by decide) (by decide); exact z) dL_toTakeBack_8 (fun H locs hw => ?_)
    rw [or_oU hd1] at hw
    refine lv_goto (tgt := 15) hx hb dL_toTakeBack_9 (by decide) ?_
    refine lv_iconst (v := 0) hx hb dL_toTakeBack_15 (by decide) ?_
    exact fw_iret hx hb hr hlocks hw (Nat.le_of_ble_eq_true rfl) (Nat.le_of_ble_eq_true rfl) dL_toTakeBack_16 (Or.inr ⟨rfl, r, fc1, hp, dis_oC hd1, rfl⟩)

set_option maxHeartbeats 4000000 in
set_option maxRecDepth 100000 in
/-- the law: claim -/
theorem c_L_claim (l : Launch) (D : va_G) (A : Nat → Prop) (y : Nat → ClassId) (sa : Nat → Nat) (f : fw_F) (hfl : l.stackTraces = false) (α : Nat → Nat → Nat → Nat) (κ : cS) (nw no nt wk : Nat) (p0 : Int32) (hI : Ic nw no nt wk κ) (hR : Rc y nw no nt wk κ α f) (o : Nat) (gl : Nat → Int64) (hd : fw_dis f (oC y o gl)) : Met l yL_claim wsL_claim ({ frames := 8, cells := 1, slots := 6, locals := 131 } : Room) (cPc D A y sa (fw_or f (oC y o gl)) [.ref (α 0 0 0), .int p0, .ref o]) (cQi D A (fun k f1 => (k = 1 ∧ (fun E => E = nIOB ∧ ¬ inr p0 0 (nI nw - 1)) nIOB ∧ f1 = fw_or f (oC y o gl)) ∨ (k = 0 ∧ ∃ r fc1, (fun r f1 => ∃ w, w < nw ∧ p0 = nI w ∧ r = clC κ wk w ∧ f1 = f) r fc1 ∧ fw_dis fc1 (oC y o (oU gl r)) ∧ f1 = fw_or fc1 (oC y o (oU gl r))))) 1 6 A := by
  refine fw_hmet (by decide) rfl [.ref (α 0 0 0), .int p0, .ref o] (Nat.le_of_ble_eq_true rfl) ?_
  intro p e s m args below meth c ls I htab hE hw hl
  obtain ⟨hx, hb, hr, hts, hown, hlocks, hml⟩ := I
  have hown : s.vm.findClass RL = some m.cls := hown
  have hl : lv_has ls 4 [(0, .ref (α 0 0 0)), (1, .int p0), (2, .ref o)] := hl
  refine lv_aload_n hx hb dL_claim_0 rfl (lv_at hl 2 rfl) ?_
  refine lv_iconst (v := 0) hx hb dL_claim_1 (by decide) ?_
  refine lv_aload_n hx hb dL_claim_2 rfl (lv_at hl 0 rfl) ?_
  refine lv_iload_n hx hb dL_claim_3 rfl (lv_at hl 1 rfl) ?_
  refine fw_xViN (thr := fun E => E = nIOB ∧ ¬ inr p0 0 (nI nw - 1)) (f := f) (g := oC y o gl) hx hb hml hown hts hE hw hd [.int p0] [.int 0, .ref o] (c_X8_claim l D (fw_A A (oC y o gl)) y sa f hfl α κ nw no nt wk p0 hI hR) (cwV 1 hts gL_claim_X8_claim rfl rfl rfl (by decide +kernel) ⟨Nat.le_of_ble_eq_true rfl, Nat.le_of_ble_eq_true rfl⟩) (ci := 8) rfl rfl hR.x rfl hl.1 rfl (Nat.le_of_ble_eq_true rfl) dL_claim_4 ⟨Nat.le_of_ble_eq_true rfl, Nat.le_of_ble_eq_true rfl⟩ (fun E ce q9 H locs hth hw hce hcv hcl => ?_) (fun r fc1 H locs hp hd1 hw => ?_)
  · have hth2 := hth
    obtain ⟨rfl, h⟩ := hth
    refine vx_catch (own := RL) (name := nIOB) (E := nIOB) hown [] (⟨0, 9, 12, 13⟩ : ExceptionTableEntry) [] htab (fun z hz => absurd hz List.not_mem_nil) rfl (by decide) (hts (.classLink RL 13 nIOB) (by decide +kernel)) (va_Nw.use rfl (hE.1.2.2.1 (.castable nIOB nIOB) (by decide +kernel))) hce hcv hcl ?_
    refine W.eq (g2 := F0 m 12 ls [.ref q9]) rfl ?_
    refine lv_astore_n (lv' := [(3, .ref q9), (0, .ref (α 0 0 0)), (1, .int p0), (2, .ref o)]) hx hb dL_claim_12 rfl hl (by decide) rfl (fun ls hl => ?_)
    refine lv_iconst (v := 1) hx hb dL_claim_13 (by decide) ?_
    exact fw_iret hx hb hr hlocks hw (Nat.le_of_ble_eq_true rfl) (Nat.le_of_ble_eq_true rfl) dL_claim_14 (Or.inl ⟨rfl, hth2, rfl⟩)
  · refine lv_i2l (v := r.toInt64) hx hb dL_claim_7 rfl ?_
    refine fw_last hx hb hE.1.1 hw (g := gl) (or_o hd1) 9 rfl (by have z : vp_in (nI 0) 1 := vp_in_nI (by decide) (by decide); exact z) dL_claim_8 (fun H locs hw => ?_)
    rw [or_oU hd1] at hw
    refine lv_goto (tgt := 15) hx hb dL_claim_9 (by decide) ?_
    refine lv_iconst (v := 0) hx hb dL_claim_15 (by decide) ?_
    exact fw_iret hx hb hr hlocks hw (Nat.le_of_ble_eq_true rfl) (Nat.le_of_ble_eq_true rfl) dL_claim_16 (Or.inr ⟨rfl, r, fc1, hp, dis_oC hd1, rfl⟩)

set_option maxHeartbeats 4000000 in
set_option maxRecDepth 100000 in
/-- the law: claimBySlips -/
theorem c_L_claimBySlips (l : Launch) (D : va_G) (A : Nat → Prop) (y : Nat → ClassId) (sa : Nat → Nat) (f : fw_F) (hfl : l.stackTraces = false) (α : Nat → Nat → Nat → Nat) (κ : cS) (nw no nt wk : Nat) (p0 : Int32) (hI : Ic nw no nt wk κ) (hR : Rc y nw no nt wk κ α f) (o : Nat) (gl : Nat → Int64) (hd : fw_dis f (oC y o gl)) : Met l yL_claimBySlips wsL_claimBySlips ({ frames := 8, cells := 1, slots := 6, locals := 134 } : Room) (cPc D A y sa (fw_or f (oC y o gl)) [.ref (α 0 0 0), .int p0, .ref o]) (cQi D A (fun k f1 => (k = 1 ∧ (fun E => E = nIOB ∧ ¬ inr p0 0 (nI nw - 1)) nIOB ∧ f1 = fw_or f (oC y o gl)) ∨ (k = 0 ∧ ∃ r fc1, (fun r f1 => ∃ w, w < nw ∧ p0 = nI w ∧ r = ssC κ w (duC κ w 0 (nI wk) + κ 4 w 4) 31 ∧ f1 = f) r fc1 ∧ fw_dis fc1 (oC y o (oU gl r)) ∧ f1 = fw_or fc1 (oC y o (oU gl r))))) 1 6 A := by
  refine fw_hmet (by decide) rfl [.ref (α 0 0 0), .int p0, .ref o] (Nat.le_of_ble_eq_true rfl) ?_
  intro p e s m args below meth c ls I htab hE hw hl
  obtain ⟨hx, hb, hr, hts, hown, hlocks, hml⟩ := I
  have hown : s.vm.findClass RL = some m.cls := hown
  have hl : lv_has ls 4 [(0, .ref (α 0 0 0)), (1, .int p0), (2, .ref o)] := hl
  refine lv_aload_n hx hb dL_claimBySlips_0 rfl (lv_at hl 2 rfl) ?_
  refine lv_iconst (v := 0) hx hb dL_claimBySlips_1 (by decide) ?_
  refine lv_aload_n hx hb dL_claimBySlips_2 rfl (lv_at hl 0 rfl) ?_
  refine lv_iload_n hx hb dL_claimBySlips_3 rfl (lv_at hl 1 rfl) ?_
  refine fw_xViN (thr := fun E => E = nIOB ∧ ¬ inr p0 0 (nI nw - 1)) (f := f) (g := oC y o gl) hx hb hml hown hts hE hw hd [.int p0] [.int 0, .ref o] (c_X8_claimBySlips l D (fw_A A (oC y o gl)) y sa f hfl α κ nw no nt wk p0 hI hR) (cwV 1 hts gL_claimBySlips_X8_claimBySlips rfl rfl rfl (by decide +kernel) ⟨Nat.le_of_ble_eq_true rfl, Nat.le_of_ble_eq_true rfl⟩) (ci := 8) rfl rfl hR.x rfl hl.1 rfl (Nat.le_of_ble_eq_true rfl) dL_claimBySlips_4 ⟨Nat.le_of_ble_eq_true rfl, Nat.le_of_ble_eq_true rfl⟩ (fun E ce q9 H locs hth hw hce hcv hcl => ?_) (fun r fc1 H locs hp hd1 hw => ?_)
  · have hth2 := hth
    obtain ⟨rfl, h⟩ := hth
    refine vx_catch (own := RL) (name := nIOB) (E := nIOB) hown [] (⟨0, 9, 12, 13⟩ : ExceptionTableEntry) [] htab (fun z hz => absurd hz List.not_mem_nil) rfl (by decide) (hts (.classLink RL 13 nIOB) (by decide +kernel)) (va_Nw.use rfl (hE.1.2.2.1 (.castable nIOB nIOB) (by decide +kernel))) hce hcv hcl ?_
    refine W.eq (g2 := F0 m 12 ls [.ref q9]) rfl ?_
    refine lv_astore_n (lv' := [(3, .ref q9), (0, .ref (α 0 0 0)), (1, .int p0), (2, .ref o)]) hx hb dL_claimBySlips_12 rfl hl (by decide) rfl (fun ls hl => ?_)
    refine lv_iconst (v := 1) hx hb dL_claimBySlips_13 (by decide) ?_
    exact fw_iret hx hb hr hlocks hw (Nat.le_of_ble_eq_true rfl) (Nat.le_of_ble_eq_true rfl) dL_claimBySlips_14 (Or.inl ⟨rfl, hth2, rfl⟩)
  · refine lv_i2l (v := r.toInt64) hx hb dL_claimBySlips_7 rfl ?_
    refine fw_last hx hb hE.1.1 hw (g := gl) (or_o hd1) 9 rfl (by have z : vp_in (nI 0) 1 := vp_in_nI (by decide) (by decide); exact z) dL_claimBySlips_8 (fun H locs hw => ?_)
    rw [or_oU hd1] at hw
    refine lv_goto (tgt := 15) hx hb dL_claimBySlips_9 (by decide) ?_
    refine lv_iconst (v := 0) hx hb dL_claimBySlips_15 (by decide) ?_
    exact fw_iret hx hb hr hlocks hw (Nat.le_of_ble_eq_true rfl) (Nat.le_of_ble_eq_true rfl) dL_claimBySlips_16 (Or.inr ⟨rfl, r, fc1, hp, dis_oC hd1, rfl⟩)
