/-! ===== BEGIN .. of methods that hand back an object of the pool ===== -/
section
variable {p : Program} {l : Launch} {e : Env} {R : Room} {s : State} {m : MethodId} {args : Array Value} {below : List Frame} {meth : Method} {c : Code} {H : Heap} {locs : List Loc} {cells slots : Nat} {Q : State → Prop}
variable {mc ms : Nat} {free : Addr → Prop} {A0 A1 : Nat → Prop} {H0 : Heap} {a : Array Value} {pc : Nat} {ls : Array Slot} {st0 rest : List Value}
theorem vx_callq {S SX : Type} {post : Option Nat → S → Prop} {px : SX → Prop} {B : S → State → Prop} {BX : String → SX → State → Prop} {AX : Nat → Prop} (hr : vx_Run p l e R s m args below meth c H locs cells slots mc ms (F0 m pc ls st0) rest (va_Qq post B A1 a) (vx_X px BX AX) free) (hS : va_S A0 H0 H locs) (hA : ∀ q, q < H.size → A1 q → A0 q) (hf : ∀ q, free q → A0 q) (hAX : ∀ q, q < H.size → AX q → A0 q)
    (kx : ∀ (E : String) (ce : Cell) (q9 : Addr) (u : SX) (t : State) (H1 : Heap) (locs1 : List Loc), t.heap = H1 → s.vm.Alike t.vm → px u → BX E u t → H.size ≤ H1.size → (∀ q : Nat, q < H.size → ¬ AX q → H1[q]? = H[q]?) → va_S A0 H0 H1 locs1 → H1[q9]? = some ce → ce.vm = .none → s.vm.findClass E = some ce.cls → vx_W p l e R s m args below meth c H1 locs1 (cells + mc) (slots + ms) Q (F0 m pc ls rest) q9)
    (kk : ∀ (r : Option Nat) (u : S) (t : State) (H1 : Heap) (locs1 : List Loc), t.heap = H1 → s.vm.Alike t.vm → post r u → B u t → H.size ≤ H1.size → (∀ q : Nat, q < H.size → ¬ A1 q → H1[q]? = H[q]?) → va_S A0 H0 H1 locs1 → W p l e R s m args below meth c H1 locs1 (cells + mc) (slots + ms) Q (F0 m (pc + 3) ls (va_rf r :: rest))) : W p l e R s m args below meth c H locs cells slots Q (F0 m pc ls st0) := by
  intro T hT X
  rcases hr T hT X with ⟨v, st₀, t, T', L, h0, X', hL, e1, e2, ⟨⟨r, u, hv, hp, hb⟩, hF⟩, st⟩ | ⟨q, st₀, t, T', L, E, ce, h0, X', hL, e1, e2, ⟨u, hp, hb, hF⟩, hce, hcv, hcl, st⟩
  · cases hv
    obtain ⟨k1, k2, k3⟩ := vx_keep h0 e1 hS hA hf hL hF
    obtain ⟨t2, a1, b1⟩ := kk r u t T'.heap (locs ++ L) e1.symm (by rw [← e2]; exact X'.warmed.alike) hp hb k1 k2 k3 T' rfl X'
    exact ⟨t2, st t2 a1, b1⟩
  · obtain ⟨k1, k2, k3⟩ := vx_keep h0 e1 hS hAX hf hL hF
    obtain ⟨t2, a1, b1⟩ := kx E ce q u t T'.heap (locs ++ L) e1.symm (by rw [← e2]; exact X'.warmed.alike) hp hb k1 k2 k3 (by rw [e1]; exact hce) hcv hcl T' rfl X'
    exact ⟨t2, st.trans a1, b1⟩
end
/-! ===== END ===== -/
/-! CALLS, THROWS, STARTS over functional worlds -/
theorem fw_hq {f : fw_F} {t : State} {H : Heap} {D : va_G} {A : Nat → Prop} (ht : t.heap = H) (h : fw_P D A f t.heap) : fw_P D A f H := by rw [← ht]; exact h
section FWC
variable {p : Program} {l : Launch} {e : Env} {R : Room} {s : State} {m : MethodId} {args : Array Value} {below : List Frame} {meth : Method} {c : Code} {H : Heap} {locs : List Loc} {cells slots : Nat} {Q : State → Prop}
variable {cc : ByteArray} {pc : Nat} {ls : Array Slot} {rest st0 : List Value} {D : va_G} {A : Nat → Prop} {f : fw_F} {own : String} {Ts : List Cond}
variable {y : Nat → ClassId} {sa : Nat → Nat} {yy : MethodName} {bytes : ByteArray} {maxL nL mc ms n index : Nat} {ret : Option FieldType} {ws : List Cond} {rm : Room} {As : List Value} {b : Nat} {C : String} {ci : Nat} {fs : List Value} {q : vw_C}
theorem fw_callVi {post : Int32 → fw_F → Prop} (hx : p.tables.exec = Jvm.exec) (hb : c.code = cc) (hml : c.maxLocals = nL) (hown : s.vm.findClass own = some m.cls) (hts : ∀ w ∈ Ts, w.before args s = true) (hE : fw_E D A y sa s) (hw : fw_S D A s.heap f H locs)
    (As : List Value) (rest : List Value) (hM : Met l yy ws rm (cPc D A y sa f (.ref b :: As)) (cQi D A post) mc ms A) (cw : CallW R s args own C index yy bytes maxL ret ws rm mc ms n) (hc : vwCl[ci]? = some q) (hC : q.1 = C) (hfb : f b = some (.inr (ci, fs)))
    (hn : As.length = n) (hsize : ls.size = nL) (hst : st0 = As.reverse ++ .ref b :: rest) (hW : (rest.map fun v => v.category).sum ≤ 8) (hdg : decode cc pc = .ok (.invokevirtual index, 3)) (hcr : cells + mc ≤ R.cells ∧ slots + ms ≤ R.slots)
    (kk : ∀ (r : Int32) (f1 : fw_F) (H1 : Heap) (locs1 : List Loc), post r f1 → fw_S D A s.heap f1 H1 locs1 → W p l e R s m args below meth c H1 locs1 (cells + mc) (slots + ms) Q (F0 m (pc + 3) ls (.int r :: rest))) : W p l e R s m args below meth c H locs cells slots Q (F0 m pc ls st0) :=
  va_calli (va_runV (As := As) (rest := rest) ⟨hx, hb, hml, hown, hts⟩ hM cw (fw_preV hE hw hc hC hfb) rfl hn hsize hst (lv_room hW) hdg hcr) hw.2 (fun q _ h => h) (fun q h => h) (fun r u t H1 locs1 ht _ hp hB _ _ hS => kk r u H1 locs1 hp ⟨fw_hq ht hB, hS⟩)
theorem fw_callVv {post : fw_F → Prop} (hx : p.tables.exec = Jvm.exec) (hb : c.code = cc) (hml : c.maxLocals = nL) (hown : s.vm.findClass own = some m.cls) (hts : ∀ w ∈ Ts, w.before args s = true) (hE : fw_E D A y sa s) (hw : fw_S D A s.heap f H locs)
    (As : List Value) (rest : List Value) (hM : Met l yy ws rm (cPc D A y sa f (.ref b :: As)) (cQv D A post) mc ms A) (cw : CallW R s args own C index yy bytes maxL ret ws rm mc ms n) (hc : vwCl[ci]? = some q) (hC : q.1 = C) (hfb : f b = some (.inr (ci, fs)))
    (hn : As.length = n) (hsize : ls.size = nL) (hst : st0 = As.reverse ++ .ref b :: rest) (hW : (rest.map fun v => v.category).sum ≤ 8) (hdg : decode cc pc = .ok (.invokevirtual index, 3)) (hcr : cells + mc ≤ R.cells ∧ slots + ms ≤ R.slots)
    (kk : ∀ (f1 : fw_F) (H1 : Heap) (locs1 : List Loc), post f1 → fw_S D A s.heap f1 H1 locs1 → W p l e R s m args below meth c H1 locs1 (cells + mc) (slots + ms) Q (F0 m (pc + 3) ls rest)) : W p l e R s m args below meth c H locs cells slots Q (F0 m pc ls st0) :=
  va_callv (va_runV (As := As) (rest := rest) ⟨hx, hb, hml, hown, hts⟩ hM cw (fw_preV hE hw hc hC hfb) rfl hn hsize hst (lv_room hW) hdg hcr) hw.2 (fun q _ h => h) (fun q h => h) (fun u t H1 locs1 ht _ hp hB _ _ hS => kk u H1 locs1 hp ⟨fw_hq ht hB, hS⟩)
theorem fw_callVq {post : Option Nat → fw_F → Prop} (hx : p.tables.exec = Jvm.exec) (hb : c.code = cc) (hml : c.maxLocals = nL) (hown : s.vm.findClass own = some m.cls) (hts : ∀ w ∈ Ts, w.before args s = true) (hE : fw_E D A y sa s) (hw : fw_S D A s.heap f H locs)
    (As : List Value) (rest : List Value) (hM : Met l yy ws rm (cPc D A y sa f (.ref b :: As)) (cQq D A post) mc ms A) (cw : CallW R s args own C index yy bytes maxL ret ws rm mc ms n) (hc : vwCl[ci]? = some q) (hC : q.1 = C) (hfb : f b = some (.inr (ci, fs)))
    (hn : As.length = n) (hsize : ls.size = nL) (hst : st0 = As.reverse ++ .ref b :: rest) (hW : (rest.map fun v => v.category).sum ≤ 8) (hdg : decode cc pc = .ok (.invokevirtual index, 3)) (hcr : cells + mc ≤ R.cells ∧ slots + ms ≤ R.slots)
    (kk : ∀ (r : Option Nat) (f1 : fw_F) (H1 : Heap) (locs1 : List Loc), post r f1 → fw_S D A s.heap f1 H1 locs1 → W p l e R s m args below meth c H1 locs1 (cells + mc) (slots + ms) Q (F0 m (pc + 3) ls (va_rf r :: rest))) : W p l e R s m args below meth c H locs cells slots Q (F0 m pc ls st0) :=
  va_callq (va_runV (As := As) (rest := rest) ⟨hx, hb, hml, hown, hts⟩ hM cw (fw_preV hE hw hc hC hfb) rfl hn hsize hst (lv_room hW) hdg hcr) hw.2 (fun q _ h => h) (fun q h => h) (fun r u t H1 locs1 ht _ hp hB _ _ hS => kk r u H1 locs1 hp ⟨fw_hq ht hB, hS⟩)
theorem fw_callSi {post : Int32 → fw_F → Prop} (hx : p.tables.exec = Jvm.exec) (hb : c.code = cc) (hml : c.maxLocals = nL) (hown : s.vm.findClass own = some m.cls) (hts : ∀ w ∈ Ts, w.before args s = true) (hE : fw_E D A y sa s) (hw : fw_S D A s.heap f H locs)
    (As : List Value) (rest : List Value) (hM : Met l yy ws rm (cPc D A y sa f As) (cQi D A post) mc ms A) (cw : CallB R s args own index yy bytes maxL ret ws rm mc ms n ∧ (Cond.static yy).before args s = true)
    (hn : As.length = n) (hsize : ls.size = nL) (hst : st0 = As.reverse ++ rest) (hW : (rest.map fun v => v.category).sum ≤ 8) (hdg : decode cc pc = .ok (.invokestatic index, 3)) (hcr : cells + mc ≤ R.cells ∧ slots + ms ≤ R.slots)
    (kk : ∀ (r : Int32) (f1 : fw_F) (H1 : Heap) (locs1 : List Loc), post r f1 → fw_S D A s.heap f1 H1 locs1 → W p l e R s m args below meth c H1 locs1 (cells + mc) (slots + ms) Q (F0 m (pc + 3) ls (.int r :: rest))) : W p l e R s m args below meth c H locs cells slots Q (F0 m pc ls st0) :=
  va_calli (va_runS (As := As) (rest := rest) ⟨hx, hb, hml, hown, hts⟩ hM cw (fw_preS hE hw) rfl hn hsize hst (lv_room hW) hdg hcr) hw.2 (fun q _ h => h) (fun q h => h) (fun r u t H1 locs1 ht _ hp hB _ _ hS => kk r u H1 locs1 hp ⟨fw_hq ht hB, hS⟩)
theorem fw_callSWi {post : Int32 → fw_F → Prop} {hh : List (Nat × Nat × Nat × Nat)} (hx : p.tables.exec = Jvm.exec) (hb : c.code = cc) (hml : c.maxLocals = nL) (hown : s.vm.findClass own = some m.cls) (hts : ∀ w ∈ Ts, w.before args s = true) {A0 : Nat → Prop} {H0 : Heap} (hpre : PreS s H (cPc D A y sa f As) As) (hw : va_S A0 H0 H locs) (hAA : ∀ q, A q → A0 q)
    (rest : List Value) (hM : Met l yy ws rm (cPc D A y sa f As) (cQi D A post) mc ms A) (cw : vx_CSW R s args own index yy bytes maxL ret hh ws rm mc ms n)
    (hn : As.length = n) (hsize : ls.size = nL) (hst : st0 = As.reverse ++ rest) (hW : (rest.map fun v => v.category).sum ≤ 8) (hdg : decode cc pc = .ok (.invokestatic index, 3)) (hcr : cells + mc ≤ R.cells ∧ slots + ms ≤ R.slots)
    (kk : ∀ (r : Int32) (f1 : fw_F) (H1 : Heap) (locs1 : List Loc), post r f1 → fw_P D A f1 H1 → H.size ≤ H1.size → (∀ q : Nat, q < H.size → ¬ A q → H1[q]? = H[q]?) → va_S A0 H0 H1 locs1 → W p l e R s m args below meth c H1 locs1 (cells + mc) (slots + ms) Q (F0 m (pc + 3) ls (.int r :: rest))) : W p l e R s m args below meth c H locs cells slots Q (F0 m pc ls st0) :=
  va_calli (A0 := A0) (vx_runSW (As := As) (rest := rest) ⟨hx, hb, hml, hown, hts⟩ hM cw hpre rfl hn hsize hst (lv_room hW) hdg hcr) hw (fun q _ h => hAA q h) (fun q h => hAA q h) (fun r u t H1 locs1 ht _ hp hB hz hk hS => kk r u H1 locs1 hp (fw_hq ht hB) hz hk hS)
theorem fw_callIv {post : fw_F → Prop} (hx : p.tables.exec = Jvm.exec) (hb : c.code = cc) (hml : c.maxLocals = nL) (hown : s.vm.findClass own = some m.cls) (hts : ∀ w ∈ Ts, w.before args s = true) (hE : fw_E D A y sa s) (hw : fw_S D A s.heap f H locs)
    (As : List Value) (rest : List Value) (hM : Met l yy ws rm (cPc D A y sa f (.ref b :: As)) (cQv D A post) mc ms A) (cw : CallB R s args own index yy bytes maxL none ws rm mc ms n ∧ yy.name = "<init>" ∧ (Cond.instanceMethod yy).before args s = true)
    (hn : As.length = n) (hsize : ls.size = nL) (hst : st0 = As.reverse ++ .ref b :: rest) (hW : (rest.map fun v => v.category).sum ≤ 8) (hdg : decode cc pc = .ok (.invokespecial index, 3)) (hcr : cells + mc ≤ R.cells ∧ slots + ms ≤ R.slots)
    (kk : ∀ (f1 : fw_F) (H1 : Heap) (locs1 : List Loc), post f1 → fw_S D A s.heap f1 H1 locs1 → W p l e R s m args below meth c H1 locs1 (cells + mc) (slots + ms) Q (F0 m (pc + 3) ls rest)) : W p l e R s m args below meth c H locs cells slots Q (F0 m pc ls st0) :=
  va_callv (va_runI (As := As) (rest := rest) ⟨hx, hb, hml, hown, hts⟩ hM cw (fw_preS hE hw) rfl hn hsize hst (lv_room hW) hdg hcr) hw.2 (fun q _ h => h) (fun q h => h) (fun u t H1 locs1 ht _ hp hB _ _ hS => kk u H1 locs1 hp ⟨fw_hq ht hB, hS⟩)
theorem fw_callINv {post : fw_F → Prop} {host : String} (hx : p.tables.exec = Jvm.exec) (hb : c.code = cc) (hml : c.maxLocals = nL) (hown : s.vm.findClass own = some m.cls) (hts : ∀ w ∈ Ts, w.before args s = true) (hE : fw_E D A y sa s) (hw : fw_S D A s.heap f H locs)
    (As : List Value) (rest : List Value) (hM : Met l yy ws rm (cPc D A y sa f (.ref b :: As)) (cQv D A post) mc ms A) (cw : va_CN R s args own index yy host bytes maxL none ws rm mc ms n ∧ yy.name = "<init>" ∧ (Cond.instanceMethod yy).before args s = true)
    (hn : As.length = n) (hsize : ls.size = nL) (hst : st0 = As.reverse ++ .ref b :: rest) (hW : (rest.map fun v => v.category).sum ≤ 8) (hdg : decode cc pc = .ok (.invokespecial index, 3)) (hcr : cells + mc ≤ R.cells ∧ slots + ms ≤ R.slots)
    (kk : ∀ (f1 : fw_F) (H1 : Heap) (locs1 : List Loc), post f1 → fw_S D A s.heap f1 H1 locs1 → W p l e R s m args below meth c H1 locs1 (cells + mc) (slots + ms) Q (F0 m (pc + 3) ls rest)) : W p l e R s m args below meth c H locs cells slots Q (F0 m pc ls st0) :=
  va_callv (va_runIN (As := As) (rest := rest) ⟨hx, hb, hml, hown, hts⟩ hM cw (fw_preS hE hw) rfl hn hsize hst (lv_room hW) hdg hcr) hw.2 (fun q _ h => h) (fun q h => h) (fun u t H1 locs1 ht _ hp hB _ _ hS => kk u H1 locs1 hp ⟨fw_hq ht hB, hS⟩)
-- calls that may throw, in a method without handlers: what is thrown goes on
variable {thr thr' : String → Prop} {Qc : Array Value → State → Outcome → State → Prop} {mc' ms' : Nat}
theorem fw_thrown {E : String} {ce : Cell} {q9 : Nat} (htab : ∀ x ∈ c.exceptionTable.toList, False) (hlocks : meth.locks = false) (hth : thr' E) (hP : fw_P D A f H) (hS : va_S A s.heap H locs) (hce : H[q9]? = some ce) (hcv : ce.vm = .none) (hcl : s.vm.findClass E = some ce.cls) (hmc : cells ≤ mc') (hms : slots ≤ ms') :
    vx_W p l e R s m args below meth c H locs cells slots (vx_MQ below Qc (cX D A f thr') args s mc' ms' A) (F0 m pc ls rest) q9 :=
  vx_out (fun x hx => (htab x hx).elim) hlocks hce hcv hcl (fun t2 ht2 _ => ⟨(), trivial, ⟨hth, fw_hp ht2 hP⟩, hS.F ht2⟩) hS.2.2 hmc hms
theorem fw_tVq {post : Option Nat → fw_F → Prop} (hx : p.tables.exec = Jvm.exec) (hb : c.code = cc) (hml : c.maxLocals = nL) (hown : s.vm.findClass own = some m.cls) (hts : ∀ w ∈ Ts, w.before args s = true) (hE : fw_E D A y sa s) (hw : fw_S D A s.heap f H locs) (htab : ∀ x ∈ c.exceptionTable.toList, False) (hlocks : meth.locks = false)
    (As : List Value) (rest : List Value) (hM : vx_Met l yy ws rm (cPc D A y sa f (.ref b :: As)) (cQq D A post) (cX D A f thr) mc ms A) (cw : CallW R s args own C index yy bytes maxL ret ws rm mc ms n) (hc : vwCl[ci]? = some q) (hC : q.1 = C) (hfb : f b = some (.inr (ci, fs)))
    (hn : As.length = n) (hsize : ls.size = nL) (hst : st0 = As.reverse ++ .ref b :: rest) (hW : (rest.map fun v => v.category).sum ≤ 8) (hdg : decode cc pc = .ok (.invokevirtual index, 3)) (hcr : cells + mc ≤ R.cells ∧ slots + ms ≤ R.slots) (hth : ∀ E, thr E → thr' E) (hmc : cells + mc ≤ mc') (hms : slots + ms ≤ ms')
    (kk : ∀ (r : Option Nat) (f1 : fw_F) (H1 : Heap) (locs1 : List Loc), post r f1 → fw_S D A s.heap f1 H1 locs1 → W p l e R s m args below meth c H1 locs1 (cells + mc) (slots + ms) (vx_MQ below Qc (cX D A f thr') args s mc' ms' A) (F0 m (pc + 3) ls (va_rf r :: rest))) : W p l e R s m args below meth c H locs cells slots (vx_MQ below Qc (cX D A f thr') args s mc' ms' A) (F0 m pc ls st0) :=
  vx_callq (vx_runV (As := As) (rest := rest) ⟨hx, hb, hml, hown, hts⟩ hM cw (fw_preV hE hw hc hC hfb) rfl hn hsize hst (lv_room hW) hdg hcr) hw.2 (fun q _ h => h) (fun q h => h) (fun q _ h => h)
    (fun E ce q9 u t H1 locs1 ht _ _ hB _ _ hS hce hcv hcl => fw_thrown htab hlocks (hth E hB.1) (fw_hq ht hB.2) hS hce hcv hcl hmc hms)
    (fun r u t H1 locs1 ht _ hp hB _ _ hS => kk r u H1 locs1 hp ⟨fw_hq ht hB, hS⟩)
theorem fw_tSv {post : fw_F → Prop} (hx : p.tables.exec = Jvm.exec) (hb : c.code = cc) (hml : c.maxLocals = nL) (hown : s.vm.findClass own = some m.cls) (hts : ∀ w ∈ Ts, w.before args s = true) (hE : fw_E D A y sa s) (hw : fw_S D A s.heap f H locs) (htab : ∀ x ∈ c.exceptionTable.toList, False) (hlocks : meth.locks = false)
    (As : List Value) (rest : List Value) (hM : vx_Met l yy ws rm (cPc D A y sa f As) (cQv D A post) (cX D A f thr) mc ms A) (cw : CallB R s args own index yy bytes maxL ret ws rm mc ms n ∧ (Cond.static yy).before args s = true)
    (hn : As.length = n) (hsize : ls.size = nL) (hst : st0 = As.reverse ++ rest) (hW : (rest.map fun v => v.category).sum ≤ 8) (hdg : decode cc pc = .ok (.invokestatic index, 3)) (hcr : cells + mc ≤ R.cells ∧ slots + ms ≤ R.slots) (hth : ∀ E, thr E → thr' E) (hmc : cells + mc ≤ mc') (hms : slots + ms ≤ ms')
    (kk : ∀ (f1 : fw_F) (H1 : Heap) (locs1 : List Loc), post f1 → fw_S D A s.heap f1 H1 locs1 → W p l e R s m args below meth c H1 locs1 (cells + mc) (slots + ms) (vx_MQ below Qc (cX D A f thr') args s mc' ms' A) (F0 m (pc + 3) ls rest)) : W p l e R s m args below meth c H locs cells slots (vx_MQ below Qc (cX D A f thr') args s mc' ms' A) (F0 m pc ls st0) :=
  vx_callv (vx_runS (As := As) (rest := rest) ⟨hx, hb, hml, hown, hts⟩ hM cw (fw_preS hE hw) rfl hn hsize hst (lv_room hW) hdg hcr) hw.2 (fun q _ h => h) (fun q h => h) (fun q _ h => h)
    (fun E ce q9 u t H1 locs1 ht _ _ hB _ _ hS hce hcv hcl => fw_thrown htab hlocks (hth E hB.1) (fw_hq ht hB.2) hS hce hcv hcl hmc hms)
    (fun u t H1 locs1 ht _ hp hB _ _ hS => kk u H1 locs1 hp ⟨fw_hq ht hB, hS⟩)
/-- a call that may throw, where there are handlers -/
theorem fw_xVi {post : Int32 → fw_F → Prop} (hx : p.tables.exec = Jvm.exec) (hb : c.code = cc) (hml : c.maxLocals = nL) (hown : s.vm.findClass own = some m.cls) (hts : ∀ w ∈ Ts, w.before args s = true) (hE : fw_E D A y sa s) (hw : fw_S D A s.heap f H locs)
    (As : List Value) (rest : List Value) (hM : vx_Met l yy ws rm (cPc D A y sa f (.ref b :: As)) (cQi D A post) (cX D A f thr) mc ms A) (cw : CallW R s args own C index yy bytes maxL ret ws rm mc ms n) (hc : vwCl[ci]? = some q) (hC : q.1 = C) (hfb : f b = some (.inr (ci, fs)))
    (hn : As.length = n) (hsize : ls.size = nL) (hst : st0 = As.reverse ++ .ref b :: rest) (hW : (rest.map fun v => v.category).sum ≤ 8) (hdg : decode cc pc = .ok (.invokevirtual index, 3)) (hcr : cells + mc ≤ R.cells ∧ slots + ms ≤ R.slots)
    (kx : ∀ (E : String) (ce : Cell) (q9 : Nat) (H1 : Heap) (locs1 : List Loc), thr E → fw_S D A s.heap f H1 locs1 → H1[q9]? = some ce → ce.vm = .none → s.vm.findClass E = some ce.cls → vx_W p l e R s m args below meth c H1 locs1 (cells + mc) (slots + ms) Q (F0 m pc ls rest) q9)
    (kk : ∀ (r : Int32) (f1 : fw_F) (H1 : Heap) (locs1 : List Loc), post r f1 → fw_S D A s.heap f1 H1 locs1 → W p l e R s m args below meth c H1 locs1 (cells + mc) (slots + ms) Q (F0 m (pc + 3) ls (.int r :: rest))) : W p l e R s m args below meth c H locs cells slots Q (F0 m pc ls st0) :=
  vx_calli (vx_runV (As := As) (rest := rest) ⟨hx, hb, hml, hown, hts⟩ hM cw (fw_preV hE hw hc hC hfb) rfl hn hsize hst (lv_room hW) hdg hcr) hw.2 (fun q _ h => h) (fun q h => h) (fun q _ h => h)
    (fun E ce q9 u t H1 locs1 ht _ _ hB _ _ hS hce hcv hcl => kx E ce q9 H1 locs1 hB.1 ⟨fw_hq ht hB.2, hS⟩ hce hcv hcl)
    (fun r u t H1 locs1 ht _ hp hB _ _ hS => kk r u H1 locs1 hp ⟨fw_hq ht hB, hS⟩)
/-- throw new E("text") of class CrewPay -/
def thOK (ic : Nat) (cls : String) : Prop := Bundle.fit cls = true ∧ (∀ w ∈ (vx_atS RX8 ic cls [nRTE, nEXC]).filter (fun w => !goodWord w), w ∈ dNW) ∧ (∀ w ∈ vx_atS RX8 ic cls [nRTE, nEXC], vx_ot w = true)
theorem thIOB : thOK 129 nIOB := ⟨by decide +kernel, by decide +kernel, by decide +kernel⟩
theorem thIAE : thOK 215 nIAE := ⟨by decide +kernel, by decide +kernel, by decide +kernel⟩
theorem thISE : thOK 65 nISE := ⟨by decide +kernel, by decide +kernel, by decide +kernel⟩
theorem thNm : ∀ n ∈ [nRTE, nEXC], Bundle.fit n = true := by decide +kernel
theorem fw_throw {ic ik is : Nat} {cls text : String} (hx : p.tables.exec = Jvm.exec) (hb : c.code = cc) (hfl : l.stackTraces = false) (hts : ∀ w ∈ Ts, w.before args s = true) (hown : s.vm.findClass RX8 = some m.cls) (hE : fw_E D A y sa s) (hw : fw_S D A s.heap f H locs) (htab : ∀ x ∈ c.exceptionTable.toList, False) (hlocks : meth.locks = false)
    (hok : thOK ic cls) (hg : ∀ w ∈ (vx_atS RX8 ic cls [nRTE, nEXC]).filter goodWord, w ∈ Ts) (hk : Cond.classLink RX8 ik cls ∈ Ts) (hini : Cond.initialized cls ∈ Ts) (hstr : (is, text) ∈ strW) (hsize : ls.size = c.maxLocals)
    (d0 : decode cc pc = .ok (.new ik, 3)) (d3 : decode cc (pc + 3) = .ok (.dup, 1)) (d4 : decode cc (pc + 4) = .ok (.ldc is, 2)) (d6 : decode cc (pc + 6) = .ok (.invokespecial ic, 3)) (d9 : decode cc (pc + 9) = .ok (.athrow, 1))
    (hRf : 5 < R.frames) (hRl : (rest.map fun v => v.category).sum + 82 ≤ R.locals) (hRc : cells + 1 ≤ R.cells) (hRs : slots + 6 ≤ R.slots) (hth : thr' cls) (hmc : cells + 1 ≤ mc') (hms : slots + 6 ≤ ms') :
    W p l e R s m args below meth c H locs cells slots (vx_MQ below Qc (cX D A f thr') args s mc' ms' A) (F0 m pc ls rest) := by
  have hat : ∀ w ∈ vx_atS RX8 ic cls [nRTE, nEXC], w.before args s = true := vx_hat (B := dNW) (fun w h => hts w (hg w h)) hok.2.1 (fun w h => va_Nw.use (by simp only [dNW, List.mem_cons, List.not_mem_nil, or_false] at h; rcases h with rfl | rfl | rfl | rfl | rfl | rfl <;> rfl) (hE.1.2.2.1 w h))
  refine vx_throwS hx hb hfl hown hok.1 thNm (hts _ hk) (hts _ hini) (hE.1.2.2.2.2.1 (is, text) hstr) hat (fun w h => ?_) hE.2.2.1 hE.2.2.2 hw.2 hsize d0 d3 d4 d6 d9 (fun x hx => (htab x hx).elim) hRf hRl hRc hRs hlocks (fun t hal hz hk => ⟨(), trivial, ⟨hth, ?_⟩, Nat.le_trans hw.2.1 hz, fun q h1 h2 => (hk q (Nat.lt_of_lt_of_le h1 hw.2.1)).trans (hw.2.2.1 q h1 h2)⟩) hw.2.2.2 hmc hms
  · rcases List.mem_cons.mp h with rfl | h
    · rfl
    · rcases List.mem_cons.mp h with rfl | h
      · rfl
      · exact hok.2.2 w h
  · exact hw.1.kept (fun a e ha => hk a (hw.1.lt ha))
-- starts
abbrev fw_In (p : Program) (s : State) (m : MethodId) (args : Array Value) (meth : Method) (c : Code) (cc : ByteArray) (maxL : Nat) (ret : Option FieldType) (ws : List Cond) (cls : String) : Prop :=
  p.tables.exec = Jvm.exec ∧ c.code = cc ∧ meth.sig.returnType = ret ∧ (∀ w ∈ ws, w.before args s = true) ∧ s.vm.findClass cls = some m.cls ∧ meth.locks = false ∧ c.maxLocals = maxL
end FWC
section FWB
variable {l : Launch} {D : va_G} {A : Nat → Prop} {y : Nat → ClassId} {sa : Nat → Nat} {f : fw_F} {yy : MethodName} {cc : ByteArray} {maxL : Nat} {ret : Option FieldType} {ws ws' : List Cond} {rm : Room} {mc ms : Nat} {Qc : Array Value → State → Outcome → State → Prop} {thr : String → Prop}
theorem fw_met (hy : plainName yy.cls = true) (hw : ws = Cond.code yy cc maxL ret :: ws') (av : List Value) (hav : (lg_sl av).length ≤ maxL)
    (body : ∀ (p : Program) (e : Env) (s : State) (m : MethodId) (args : Array Value) (below : List Frame) (meth : Method) (c : Code) (ls : Array Slot), fw_In p s m args meth c cc maxL ret ws yy.cls → (yy.name = "<init>" → meth.name = "<init>") → fw_E D A y sa s → fw_S D A s.heap f s.heap [] → lv_has ls maxL (lv_args 0 av) →
      W p l e (headSpec ws rm).room s m args below meth c s.heap [] 0 0 (MQ below Qc args s mc ms A) (F0 m 0 ls [])) : Met l yy ws rm (cPc D A y sa f av) Qc mc ms A := by
  refine Met.ofW (cc := cc) (maxL := maxL) (ret := ret) hy hw ?_
  intro p e s m args below meth c s₁ B hml hv
  obtain ⟨rfl, hP, hE⟩ := hv
  rw [lg_entry_eq]
  exact body p e s m _ below meth c _ ⟨B.exec, B.bytes, B.returns, atoms_spec (ws := ws) B.pre, findClass_of_methodNamed B.named, B.notSynchronized, hml⟩ (fun h => (name_of_methodNamed B.named B.method).1.trans h) hE ⟨hP, va_S.rf⟩ (lv_entry av hav)
theorem fw_xmet (hy : plainName yy.cls = true) (hw : ws = Cond.code yy cc maxL ret :: ws') (av : List Value) (hav : (lg_sl av).length ≤ maxL)
    (body : ∀ (p : Program) (e : Env) (s : State) (m : MethodId) (args : Array Value) (below : List Frame) (meth : Method) (c : Code) (ls : Array Slot), fw_In p s m args meth c cc maxL ret ws yy.cls → (∀ x ∈ c.exceptionTable.toList, False) → fw_E D A y sa s → fw_S D A s.heap f s.heap [] → lv_has ls maxL (lv_args 0 av) →
      W p l e (headSpec ws rm).room s m args below meth c s.heap [] 0 0 (vx_MQ below Qc (cX D A f thr) args s mc ms A) (F0 m 0 ls [])) : vx_Met l yy ws rm (cPc D A y sa f av) Qc (cX D A f thr) mc ms A := by
  refine vx_ofW (cc := cc) (maxL := maxL) (ret := ret) hy hw ?_
  intro p e s m args below meth c s₁ B hml ht hv
  obtain ⟨rfl, hP, hE⟩ := hv
  rw [lg_entry_eq]
  exact body p e s m _ below meth c _ ⟨B.exec, B.bytes, B.returns, atoms_spec (ws := ws) B.pre, findClass_of_methodNamed B.named, B.notSynchronized, hml⟩ ht hE ⟨hP, va_S.rf⟩ (lv_entry av hav)
/-- a method with handlers that lets nothing out -/
theorem fw_hmet {hh : List (Nat × Nat × Nat × Nat)} (hy : plainName yy.cls = true) (hw : ws = Cond.codeWith yy cc maxL ret hh :: ws') (av : List Value) (hav : (lg_sl av).length ≤ maxL)
    (body : ∀ (p : Program) (e : Env) (s : State) (m : MethodId) (args : Array Value) (below : List Frame) (meth : Method) (c : Code) (ls : Array Slot), fw_In p s m args meth c cc maxL ret ws yy.cls → c.exceptionTable.toList = tableOf hh → fw_E D A y sa s → fw_S D A s.heap f s.heap [] → lv_has ls maxL (lv_args 0 av) →
      W p l e (headSpec ws rm).room s m args below meth c s.heap [] 0 0 (MQ below Qc args s mc ms A) (F0 m 0 ls [])) : Met l yy ws rm (cPc D A y sa f av) Qc mc ms A := by
  refine va_MetW (cc := cc) (maxL := maxL) (ret := ret) (hh := hh) hy hw ?_
  intro p e s m args below meth c s₁ B hml hv
  obtain ⟨rfl, hP, hE⟩ := hv
  have ht := vx_table (x := yy) B (atoms_spec (ws := ws) B.pre _ (by rw [hw]; exact List.mem_cons_self))
  rw [lg_entry_eq]
  exact body p e s m _ below meth c _ ⟨B.exec, B.bytes, B.returns, atoms_spec (ws := ws) B.pre, findClass_of_methodNamed B.named, B.notSynchronized, hml⟩ ht hE ⟨hP, va_S.rf⟩ (lv_entry av hav)
end FWB
