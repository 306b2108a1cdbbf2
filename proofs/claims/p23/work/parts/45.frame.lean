/-! TWO WORLDS, apart: the one a call works on, and the one it leaves -/
def fw_or (f g : fw_F) : fw_F := fun q => match f q with
  | some e => some e
  | none => g q
def fw_dis (f g : fw_F) : Prop := ∀ q, f q ≠ none → g q = none
def fw_A (A : Nat → Prop) (g : fw_F) : Nat → Prop := fun q => A q ∧ g q = none
theorem fw_or_l {f g : fw_F} {q : Nat} {e : va_E} (h : f q = some e) : fw_or f g q = some e := by unfold fw_or; rw [h]
theorem fw_or_n {f g : fw_F} {q : Nat} (h : f q = none) : fw_or f g q = g q := by unfold fw_or; rw [h]
theorem fw_dis.symm {f g : fw_F} (h : fw_dis f g) : fw_dis g f := by
  intro q hq
  cases hf : f q with
  | none => rfl
  | some e => exact absurd (h q (by rw [hf]; exact fun z => nomatch z)) hq
theorem fw_or_c {f g : fw_F} (h : fw_dis f g) : fw_or f g = fw_or g f := by
  funext q
  cases hf : f q with
  | none =>
    rw [fw_or_n hf]
    cases hg : g q with
    | none => rw [fw_or_n hg, hf]
    | some e => rw [fw_or_l hg]
  | some e =>
    have hg : g q = none := h q (by rw [hf]; exact fun z => nomatch z)
    rw [fw_or_l hf, fw_or_n hg, hf]
theorem fw_or_a {f g h : fw_F} : fw_or (fw_or f g) h = fw_or f (fw_or g h) := by
  funext q
  cases hf : f q with
  | none => rw [fw_or_n hf]; unfold fw_or; rw [hf]
  | some e => rw [fw_or_l hf, fw_or_l (fw_or_l hf)]
theorem fw_or_up {f g : fw_F} {a : Nat} {e : va_E} : fw_up (fw_or f g) a e = fw_or (fw_up f a e) g := by
  funext q
  by_cases z : q = a
  · subst z
    rw [fw_up_s, fw_or_l fw_up_s]
  · rw [fw_up_n z]
    unfold fw_or
    rw [fw_up_n z]
theorem fw_dis.up {f g : fw_F} (h : fw_dis f g) {a : Nat} {e : va_E} (hg : g a = none) : fw_dis (fw_up f a e) g := by
  intro q hq
  by_cases z : q = a
  · rw [z]; exact hg
  · rw [fw_up_n z] at hq
    exact h q hq
theorem fw_dis_or {f g h : fw_F} (h1 : fw_dis f h) (h2 : fw_dis g h) : fw_dis (fw_or f g) h := by
  intro q hq
  cases hf : f q with
  | none => rw [fw_or_n hf] at hq; exact h2 q hq
  | some e => exact h1 q (by rw [hf]; exact fun z => nomatch z)
section FRP
variable {D : va_G} {A : Nat → Prop} {f g : fw_F} {H H1 : Heap}
theorem fw_P.left (h : fw_P D A (fw_or f g) H) (hd : fw_dis f g) : fw_P D (fw_A A g) f H :=
  ⟨fun a e ha => h.1 a e (fw_or_l ha), fun a e ha => ⟨h.2 a e (fw_or_l ha), hd a (by rw [ha]; exact fun z => nomatch z)⟩⟩
theorem fw_P.right (h : fw_P D A (fw_or f g) H) (hd : fw_dis f g) : fw_P D A g H := by
  have key : ∀ a e, g a = some e → fw_or f g a = some e := by
    intro a e ha
    cases hf : f a with
    | none => rw [fw_or_n hf]; exact ha
    | some x => rw [hd a (by rw [hf]; exact fun z => nomatch z)] at ha; cases ha
  exact ⟨fun a e ha => h.1 a e (key a e ha), fun a e ha => h.2 a e (key a e ha)⟩
theorem fw_P.join (h1 : fw_P D (fw_A A g) f H) (h2 : fw_P D A g H) : fw_P D A (fw_or f g) H ∧ fw_dis f g := by
  refine ⟨⟨fun a e ha => ?_, fun a e ha => ?_⟩, fun q hq => ?_⟩
  · cases hf : f a with
    | none => rw [fw_or_n hf] at ha; exact h2.1 a e ha
    | some x => rw [fw_or_l hf] at ha; cases ha; exact h1.1 a _ hf
  · cases hf : f a with
    | none => rw [fw_or_n hf] at ha; exact h2.2 a e ha
    | some x => exact (h1.2 a _ hf).1
  · cases hf : f q with
    | none => exact absurd hf hq
    | some x => exact (h1.2 q _ hf).2
end FRP
theorem fw_E.apart {D : va_G} {A : Nat → Prop} {g : fw_F} {y : Nat → ClassId} {sa : Nat → Nat} {U : State} (h : fw_E D A y sa U) (hg : fw_P D A g U.heap) : fw_E D (fw_A A g) y sa U := by
  refine h.narrow (fun q hq => hq.1) (fun q hq => ⟨h.2.1 q hq, ?_⟩)
  cases hz : g q with
  | none => rfl
  | some e => exact absurd (hg.lt hz) (by omega)
section FRC
variable {p : Program} {l : Launch} {e : Env} {R : Room} {s : State} {m : MethodId} {args : Array Value} {below : List Frame} {meth : Method} {c : Code} {H : Heap} {locs : List Loc} {cells slots : Nat} {Q : State → Prop}
variable {cc : ByteArray} {pc : Nat} {ls : Array Slot} {rest st0 : List Value} {D : va_G} {A : Nat → Prop} {f g : fw_F} {own : String} {Ts : List Cond}
variable {y : Nat → ClassId} {sa : Nat → Nat} {yy : MethodName} {bytes : ByteArray} {maxL nL mc ms n index : Nat} {ret : Option FieldType} {ws : List Cond} {rm : Room} {As : List Value} {b : Nat} {C : String} {ci : Nat} {fs : List Value} {q : vw_C}
theorem fw_preVN (hE : fw_E D A y sa s) (hw : fw_S D A s.heap (fw_or f g) H locs) (hd : fw_dis f g) (hc : vwCl[ci]? = some q) (hC : q.1 = C) (hfb : f b = some (.inr (ci, fs))) : PreV s H C b (cPc D (fw_A A g) y sa f (.ref b :: As)) As :=
  ⟨cPc_blind, hC ▸ va_recv hE.1.1 ((hw.1.left hd).one hfb) (q0 := 0) hc rfl, fun U hU hW => ⟨rfl, by rw [hU]; exact hw.1.left hd, (hE.moved hw.2 hU hW).apart (by rw [hU]; exact hw.1.right hd)⟩⟩
theorem fw_preSN (hE : fw_E D A y sa s) (hw : fw_S D A s.heap (fw_or f g) H locs) (hd : fw_dis f g) : PreS s H (cPc D (fw_A A g) y sa f As) As :=
  ⟨cPc_blind, fun U hU hW => ⟨rfl, by rw [hU]; exact hw.1.left hd, (hE.moved hw.2 hU hW).apart (by rw [hU]; exact hw.1.right hd)⟩⟩
/-- the world that was left stands -/
theorem fw_left_stands {H1 : Heap} (hg : fw_P D A g H) (hz : H.size ≤ H1.size) (hk : ∀ q : Nat, q < H.size → ¬ fw_A A g q → H1[q]? = H[q]?) : fw_P D A g H1 :=
  hg.kept (fun a e ha => hk a (hg.lt ha) (fun z => nomatch (ha.symm.trans z.2)))
theorem fw_callViN {post : Int32 → fw_F → Prop} (hx : p.tables.exec = Jvm.exec) (hb : c.code = cc) (hml : c.maxLocals = nL) (hown : s.vm.findClass own = some m.cls) (hts : ∀ w ∈ Ts, w.before args s = true) (hE : fw_E D A y sa s) (hw : fw_S D A s.heap (fw_or f g) H locs) (hd : fw_dis f g)
    (As : List Value) (rest : List Value) (hM : Met l yy ws rm (cPc D (fw_A A g) y sa f (.ref b :: As)) (cQi D (fw_A A g) post) mc ms (fw_A A g)) (cw : CallW R s args own C index yy bytes maxL ret ws rm mc ms n) (hc : vwCl[ci]? = some q) (hC : q.1 = C) (hfb : f b = some (.inr (ci, fs)))
    (hn : As.length = n) (hsize : ls.size = nL) (hst : st0 = As.reverse ++ .ref b :: rest) (hW : (rest.map fun v => v.category).sum ≤ 8) (hdg : decode cc pc = .ok (.invokevirtual index, 3)) (hcr : cells + mc ≤ R.cells ∧ slots + ms ≤ R.slots)
    (kk : ∀ (r : Int32) (f1 : fw_F) (H1 : Heap) (locs1 : List Loc), post r f1 → fw_dis f1 g → fw_S D A s.heap (fw_or f1 g) H1 locs1 → W p l e R s m args below meth c H1 locs1 (cells + mc) (slots + ms) Q (F0 m (pc + 3) ls (.int r :: rest))) : W p l e R s m args below meth c H locs cells slots Q (F0 m pc ls st0) :=
  va_calli (va_runV (As := As) (rest := rest) ⟨hx, hb, hml, hown, hts⟩ hM cw (fw_preVN hE hw hd hc hC hfb) rfl hn hsize hst (lv_room hW) hdg hcr) hw.2 (fun q _ h => h.1) (fun q h => h.1) (fun r u t H1 locs1 ht _ hp hB hz hk hS => kk r u H1 locs1 hp ((fw_hq ht hB).join (fw_left_stands (hw.1.right hd) hz hk)).2 ⟨((fw_hq ht hB).join (fw_left_stands (hw.1.right hd) hz hk)).1, hS⟩)
theorem fw_callSiN {post : Int32 → fw_F → Prop} (hx : p.tables.exec = Jvm.exec) (hb : c.code = cc) (hml : c.maxLocals = nL) (hown : s.vm.findClass own = some m.cls) (hts : ∀ w ∈ Ts, w.before args s = true) (hE : fw_E D A y sa s) (hw : fw_S D A s.heap (fw_or f g) H locs) (hd : fw_dis f g)
    (As : List Value) (rest : List Value) (hM : Met l yy ws rm (cPc D (fw_A A g) y sa f As) (cQi D (fw_A A g) post) mc ms (fw_A A g)) (cw : CallB R s args own index yy bytes maxL ret ws rm mc ms n ∧ (Cond.static yy).before args s = true)
    (hn : As.length = n) (hsize : ls.size = nL) (hst : st0 = As.reverse ++ rest) (hW : (rest.map fun v => v.category).sum ≤ 8) (hdg : decode cc pc = .ok (.invokestatic index, 3)) (hcr : cells + mc ≤ R.cells ∧ slots + ms ≤ R.slots)
    (kk : ∀ (r : Int32) (f1 : fw_F) (H1 : Heap) (locs1 : List Loc), post r f1 → fw_dis f1 g → fw_S D A s.heap (fw_or f1 g) H1 locs1 → W p l e R s m args below meth c H1 locs1 (cells + mc) (slots + ms) Q (F0 m (pc + 3) ls (.int r :: rest))) : W p l e R s m args below meth c H locs cells slots Q (F0 m pc ls st0) :=
  va_calli (va_runS (As := As) (rest := rest) ⟨hx, hb, hml, hown, hts⟩ hM cw (fw_preSN hE hw hd) rfl hn hsize hst (lv_room hW) hdg hcr) hw.2 (fun q _ h => h.1) (fun q h => h.1) (fun r u t H1 locs1 ht _ hp hB hz hk hS => kk r u H1 locs1 hp ((fw_hq ht hB).join (fw_left_stands (hw.1.right hd) hz hk)).2 ⟨((fw_hq ht hB).join (fw_left_stands (hw.1.right hd) hz hk)).1, hS⟩)
theorem fw_callIvN {post : fw_F → Prop} (hx : p.tables.exec = Jvm.exec) (hb : c.code = cc) (hml : c.maxLocals = nL) (hown : s.vm.findClass own = some m.cls) (hts : ∀ w ∈ Ts, w.before args s = true) (hE : fw_E D A y sa s) (hw : fw_S D A s.heap (fw_or f g) H locs) (hd : fw_dis f g)
    (As : List Value) (rest : List Value) (hM : Met l yy ws rm (cPc D (fw_A A g) y sa f (.ref b :: As)) (cQv D (fw_A A g) post) mc ms (fw_A A g)) (cw : CallB R s args own index yy bytes maxL none ws rm mc ms n ∧ yy.name = "<init>" ∧ (Cond.instanceMethod yy).before args s = true)
    (hn : As.length = n) (hsize : ls.size = nL) (hst : st0 = As.reverse ++ .ref b :: rest) (hW : (rest.map fun v => v.category).sum ≤ 8) (hdg : decode cc pc = .ok (.invokespecial index, 3)) (hcr : cells + mc ≤ R.cells ∧ slots + ms ≤ R.slots)
    (kk : ∀ (f1 : fw_F) (H1 : Heap) (locs1 : List Loc), post f1 → fw_dis f1 g → fw_S D A s.heap (fw_or f1 g) H1 locs1 → W p l e R s m args below meth c H1 locs1 (cells + mc) (slots + ms) Q (F0 m (pc + 3) ls rest)) : W p l e R s m args below meth c H locs cells slots Q (F0 m pc ls st0) :=
  va_callv (va_runI (As := As) (rest := rest) ⟨hx, hb, hml, hown, hts⟩ hM cw (fw_preSN hE hw hd) rfl hn hsize hst (lv_room hW) hdg hcr) hw.2 (fun q _ h => h.1) (fun q h => h.1) (fun u t H1 locs1 ht _ hp hB hz hk hS => kk u H1 locs1 hp ((fw_hq ht hB).join (fw_left_stands (hw.1.right hd) hz hk)).2 ⟨((fw_hq ht hB).join (fw_left_stands (hw.1.right hd) hz hk)).1, hS⟩)
/-- a call that may throw, where there are handlers -/
theorem fw_xViN {thr : String → Prop} {post : Int32 → fw_F → Prop} (hx : p.tables.exec = Jvm.exec) (hb : c.code = cc) (hml : c.maxLocals = nL) (hown : s.vm.findClass own = some m.cls) (hts : ∀ w ∈ Ts, w.before args s = true) (hE : fw_E D A y sa s) (hw : fw_S D A s.heap (fw_or f g) H locs) (hd : fw_dis f g)
    (As : List Value) (rest : List Value) (hM : vx_Met l yy ws rm (cPc D (fw_A A g) y sa f (.ref b :: As)) (cQi D (fw_A A g) post) (cX D (fw_A A g) f thr) mc ms (fw_A A g)) (cw : CallW R s args own C index yy bytes maxL ret ws rm mc ms n) (hc : vwCl[ci]? = some q) (hC : q.1 = C) (hfb : f b = some (.inr (ci, fs)))
    (hn : As.length = n) (hsize : ls.size = nL) (hst : st0 = As.reverse ++ .ref b :: rest) (hW : (rest.map fun v => v.category).sum ≤ 8) (hdg : decode cc pc = .ok (.invokevirtual index, 3)) (hcr : cells + mc ≤ R.cells ∧ slots + ms ≤ R.slots)
    (kx : ∀ (E : String) (ce : Cell) (q9 : Nat) (H1 : Heap) (locs1 : List Loc), thr E → fw_S D A s.heap (fw_or f g) H1 locs1 → H1[q9]? = some ce → ce.vm = .none → s.vm.findClass E = some ce.cls → vx_W p l e R s m args below meth c H1 locs1 (cells + mc) (slots + ms) Q (F0 m pc ls rest) q9)
    (kk : ∀ (r : Int32) (f1 : fw_F) (H1 : Heap) (locs1 : List Loc), post r f1 → fw_dis f1 g → fw_S D A s.heap (fw_or f1 g) H1 locs1 → W p l e R s m args below meth c H1 locs1 (cells + mc) (slots + ms) Q (F0 m (pc + 3) ls (.int r :: rest))) : W p l e R s m args below meth c H locs cells slots Q (F0 m pc ls st0) :=
  vx_calli (vx_runV (As := As) (rest := rest) ⟨hx, hb, hml, hown, hts⟩ hM cw (fw_preVN hE hw hd hc hC hfb) rfl hn hsize hst (lv_room hW) hdg hcr) hw.2 (fun q _ h => h.1) (fun q h => h.1) (fun q _ h => h.1)
    (fun E ce q9 u t H1 locs1 ht _ _ hB hz hk hS hce hcv hcl => kx E ce q9 H1 locs1 hB.1 ⟨((fw_hq ht hB.2).join (fw_left_stands (hw.1.right hd) hz hk)).1, hS⟩ hce hcv hcl)
    (fun r u t H1 locs1 ht _ hp hB hz hk hS => kk r u H1 locs1 hp ((fw_hq ht hB).join (fw_left_stands (hw.1.right hd) hz hk)).2 ⟨((fw_hq ht hB).join (fw_left_stands (hw.1.right hd) hz hk)).1, hS⟩)
end FRC
section FRL
variable {p : Program} {l : Launch} {e : Env} {R : Room} {s : State} {m : MethodId} {args : Array Value} {below : List Frame} {meth : Method} {c : Code} {H H0 : Heap} {locs : List Loc} {cells slots : Nat} {Q : State → Prop}
variable {cc : ByteArray} {pc a : Nat} {ls : Array Slot} {rest : List Value} {D : va_G} {A : Nat → Prop} {f : fw_F} {Ts : List Cond} {tys : List (ClassId × FieldType)}
/-- arrays of long -/
theorem fw_lald (hx : p.tables.exec = Jvm.exec) (hb : c.code = cc) (hK : va_K D vwCl tys s) (hw : fw_S D A H0 f H locs) {cA : ClassId} {n : Nat} {g : Nat → Int64} (hf : f a = some (.inl (cA, n, .inr (.inl g)))) (t0 : Nat) (ht : tys[t0]? = some (cA, .long)) {i : Int32} (hin : vp_in i n) (hdg : decode cc pc = .ok (.laload, 1))
    (kk : W p l e R s m args below meth c H locs cells slots Q (F0 m (pc + 1) ls (.long (g i.toNatClampNeg) :: rest))) : W p l e R s m args below meth c H locs cells slots Q (F0 m pc ls (.int i :: .ref a :: rest)) :=
  va_lald hx hb hK (hw.1.one hf) 0 t0 rfl ht hin hdg kk
theorem fw_last (hx : p.tables.exec = Jvm.exec) (hb : c.code = cc) (hK : va_K D vwCl tys s) (hw : fw_S D A H0 f H locs) {cA : ClassId} {n : Nat} {g : Nat → Int64} (hf : f a = some (.inl (cA, n, .inr (.inl g)))) (t0 : Nat) (ht : tys[t0]? = some (cA, .long)) {i : Int32} {x : Int64} (hin : vp_in i n) (hdg : decode cc pc = .ok (.lastore, 1))
    (kk : ∀ (H1 : Heap) (locs1 : List Loc), fw_S D A H0 (fw_up f a (.inl (cA, n, .inr (.inl (vp_updL g i.toNatClampNeg x))))) H1 locs1 → W p l e R s m args below meth c H1 locs1 cells slots Q (F0 m (pc + 1) ls rest)) : W p l e R s m args below meth c H locs cells slots Q (F0 m pc ls (.long x :: .int i :: .ref a :: rest)) := by
  obtain ⟨q, hq⟩ := hw.1.ix hf
  exact va_last hx hb hK hw.1.lP hw.1.lD hw.2 q t0 hq ht hin hdg (fun H1 locs1 hP _ hS => kk H1 locs1 ⟨hw.1.st hq hP, hS⟩)
theorem fw_newJ (hx : p.tables.exec = Jvm.exec) (hb : c.code = cc) (hts : ∀ w ∈ Ts, w.before args s = true) (hK : va_K D vwCl tys s) (hw : fw_S D A H0 f H locs) (hA : ∀ q, H0.size ≤ q → A q) (harr : Cond.arrayClass (newarray.typeOf .long) ∈ Ts) {cA : ClassId} (t0 : Nat) (ht : tys[t0]? = some (cA, .long)) {n : Int32} {N : Nat} (hn : ¬ n < 0) (hN : n.toNatClampNeg = N) (hbytes : N * componentBytes .long ≤ 536870912) (hcells : cells + 1 ≤ R.cells) (hslots : slots + N ≤ R.slots) (hdg : decode cc pc = .ok (.newarray .long, 2))
    (kk : ∀ (q : Nat) (H1 : Heap), f q = none → fw_S D A H0 (fw_up f q (.inl (cA, N, .inr (.inl (fun _ => 0))))) H1 locs → W p l e R s m args below meth c H1 locs (cells + 1) (slots + N) Q (F0 m (pc + 2) ls (.ref q :: rest))) : W p l e R s m args below meth c H locs cells slots Q (F0 m pc ls (.int n :: rest)) := by
  refine va_newa (atype := .long) (ty := .long) (a0 := (N, .inr (.inl (fun _ => 0)))) hx hb (hts _ harr) rfl hK hw.1.lP hw.1.lD hw.2 hA (fun _ => rfl) hn hN hbytes hcells hslots hdg (fun q cB H1 hK2 hP hD hS => ?_)
  have e1 : s.vm.findClass ("[" ++ FieldType.long.toString) = some cA := (hK.2 t0 _ ht).2
  have e2 : s.vm.findClass ("[" ++ FieldType.long.toString) = some cB := (hK2.2 tys.length (cB, .long) (by rw [List.getElem?_append_right (Nat.le_refl _), Nat.sub_self]; rfl)).2
  obtain rfl := Option.some.inj (e1.symm.trans e2)
  exact kk q H1 (hw.1.ps hP hD).2 ⟨(hw.1.ps hP hD).1, hS⟩
end FRL
