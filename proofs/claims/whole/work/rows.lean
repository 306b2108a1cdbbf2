section
-- ===== PART A: goes FIRST, ahead of the names: the tables' words, and 'selects' of the private methods out of them =====
/-- a private method of a class that the tables say can be made, by its rows of tables_1 -/
def lw_okq (q : MethodName × Nat) : Prop := (q.1.cls ≠ "java/lang/invoke/MethodHandle" ∧ q.1.cls ≠ "java/lang/invoke/VarHandle") ∧ Cond.instantiable q.1.cls q.2 ∈ tables_1 ∧ Cond.privateMethod q.1 ∈ tables_1 ∧ Cond.instanceMethod q.1 ∈ tables_1
theorem lw_p0 : lw_okq (⟨"CrewPay", "potOf", "(I)LCrewPay$Pot;"⟩, 10) := ⟨⟨by decide +kernel, by decide +kernel⟩, List.mem_of_getElem? (i := 19) (by decide +kernel), List.mem_of_getElem? (i := 124) (by decide +kernel), List.mem_of_getElem? (i := 125) (by decide +kernel)⟩
theorem lw_p1 : lw_okq (⟨"java/lang/Throwable", "fillInStackTrace", "(I)Ljava/lang/Throwable;"⟩, 6) := ⟨⟨by decide +kernel, by decide +kernel⟩, List.mem_of_getElem? (i := 166) (by decide +kernel), List.mem_of_getElem? (i := 164) (by decide +kernel), List.mem_of_getElem? (i := 165) (by decide +kernel)⟩
theorem lw_p2 : lw_okq (⟨"CrewPay", "workerOf", "(I)LCrewPay$Worker;"⟩, 10) := ⟨⟨by decide +kernel, by decide +kernel⟩, List.mem_of_getElem? (i := 19) (by decide +kernel), List.mem_of_getElem? (i := 262) (by decide +kernel), List.mem_of_getElem? (i := 263) (by decide +kernel)⟩
theorem lw_p3 : lw_okq (⟨"CrewPay", "ratesOf", "(I)LCrewPay$Rates;"⟩, 10) := ⟨⟨by decide +kernel, by decide +kernel⟩, List.mem_of_getElem? (i := 19) (by decide +kernel), List.mem_of_getElem? (i := 267) (by decide +kernel), List.mem_of_getElem? (i := 268) (by decide +kernel)⟩
theorem lw_p4 : lw_okq (⟨"CrewPay", "ratesOrNull", "(I)LCrewPay$Rates;"⟩, 10) := ⟨⟨by decide +kernel, by decide +kernel⟩, List.mem_of_getElem? (i := 19) (by decide +kernel), List.mem_of_getElem? (i := 271) (by decide +kernel), List.mem_of_getElem? (i := 272) (by decide +kernel)⟩
theorem lw_p5 : lw_okq (⟨"CrewPay", "dueBetween", "(LCrewPay$Worker;II)I"⟩, 10) := ⟨⟨by decide +kernel, by decide +kernel⟩, List.mem_of_getElem? (i := 19) (by decide +kernel), List.mem_of_getElem? (i := 373) (by decide +kernel), List.mem_of_getElem? (i := 374) (by decide +kernel)⟩
theorem lw_p6 : lw_okq (⟨"CrewPay", "settle", "(LCrewPay$Worker;)Z"⟩, 10) := ⟨⟨by decide +kernel, by decide +kernel⟩, List.mem_of_getElem? (i := 19) (by decide +kernel), List.mem_of_getElem? (i := 494) (by decide +kernel), List.mem_of_getElem? (i := 495) (by decide +kernel)⟩
theorem lw_p7 : lw_okq (⟨"CrewPay", "claimOf", "(LCrewPay$Worker;)I"⟩, 10) := ⟨⟨by decide +kernel, by decide +kernel⟩, List.mem_of_getElem? (i := 19) (by decide +kernel), List.mem_of_getElem? (i := 498) (by decide +kernel), List.mem_of_getElem? (i := 499) (by decide +kernel)⟩
theorem lw_p8 : lw_okq (⟨"CrewPay", "pay", "(LCrewPay$Worker;I)V"⟩, 10) := ⟨⟨by decide +kernel, by decide +kernel⟩, List.mem_of_getElem? (i := 19) (by decide +kernel), List.mem_of_getElem? (i := 506) (by decide +kernel), List.mem_of_getElem? (i := 507) (by decide +kernel)⟩
theorem lw_p9 : lw_okq (⟨"CrewPay", "garnish", "(LCrewPay$Worker;I)I"⟩, 10) := ⟨⟨by decide +kernel, by decide +kernel⟩, List.mem_of_getElem? (i := 19) (by decide +kernel), List.mem_of_getElem? (i := 511) (by decide +kernel), List.mem_of_getElem? (i := 512) (by decide +kernel)⟩
theorem lw_p10 : lw_okq (⟨"CrewPayModel", "holds", "(I)Z"⟩, 25) := ⟨⟨by decide +kernel, by decide +kernel⟩, List.mem_of_getElem? (i := 582) (by decide +kernel), List.mem_of_getElem? (i := 675) (by decide +kernel), List.mem_of_getElem? (i := 676) (by decide +kernel)⟩
theorem lw_p11 : lw_okq (⟨"CrewPayModel", "isWorker", "(I)Z"⟩, 25) := ⟨⟨by decide +kernel, by decide +kernel⟩, List.mem_of_getElem? (i := 582) (by decide +kernel), List.mem_of_getElem? (i := 683) (by decide +kernel), List.mem_of_getElem? (i := 684) (by decide +kernel)⟩
theorem lw_p12 : lw_okq (⟨"CrewPayModel", "counting", "(I)I"⟩, 25) := ⟨⟨by decide +kernel, by decide +kernel⟩, List.mem_of_getElem? (i := 582) (by decide +kernel), List.mem_of_getElem? (i := 704) (by decide +kernel), List.mem_of_getElem? (i := 705) (by decide +kernel)⟩
theorem lw_p13 : lw_okq (⟨"CrewPayModel", "dueFor", "(II)I"⟩, 25) := ⟨⟨by decide +kernel, by decide +kernel⟩, List.mem_of_getElem? (i := 582) (by decide +kernel), List.mem_of_getElem? (i := 720) (by decide +kernel), List.mem_of_getElem? (i := 721) (by decide +kernel)⟩
theorem lw_p14 : lw_okq (⟨"CrewPayModel", "claimOf", "(I)I"⟩, 25) := ⟨⟨by decide +kernel, by decide +kernel⟩, List.mem_of_getElem? (i := 582) (by decide +kernel), List.mem_of_getElem? (i := 764) (by decide +kernel), List.mem_of_getElem? (i := 765) (by decide +kernel)⟩
theorem lw_p15 : lw_okq (⟨"CrewPayModel", "pays", "(II)V"⟩, 25) := ⟨⟨by decide +kernel, by decide +kernel⟩, List.mem_of_getElem? (i := 582) (by decide +kernel), List.mem_of_getElem? (i := 768) (by decide +kernel), List.mem_of_getElem? (i := 769) (by decide +kernel)⟩
def lw_privs_1 : List (MethodName × Nat) := [(⟨"CrewPay", "potOf", "(I)LCrewPay$Pot;"⟩, 10), (⟨"java/lang/Throwable", "fillInStackTrace", "(I)Ljava/lang/Throwable;"⟩, 6), (⟨"CrewPay", "workerOf", "(I)LCrewPay$Worker;"⟩, 10), (⟨"CrewPay", "ratesOf", "(I)LCrewPay$Rates;"⟩, 10), (⟨"CrewPay", "ratesOrNull", "(I)LCrewPay$Rates;"⟩, 10), (⟨"CrewPay", "dueBetween", "(LCrewPay$Worker;II)I"⟩, 10), (⟨"CrewPay", "settle", "(LCrewPay$Worker;)Z"⟩, 10), (⟨"CrewPay", "claimOf", "(LCrewPay$Worker;)I"⟩, 10), (⟨"CrewPay", "pay", "(LCrewPay$Worker;I)V"⟩, 10), (⟨"CrewPay", "garnish", "(LCrewPay$Worker;I)I"⟩, 10), (⟨"CrewPayModel", "holds", "(I)Z"⟩, 25), (⟨"CrewPayModel", "isWorker", "(I)Z"⟩, 25), (⟨"CrewPayModel", "counting", "(I)I"⟩, 25), (⟨"CrewPayModel", "dueFor", "(II)I"⟩, 25), (⟨"CrewPayModel", "claimOf", "(I)I"⟩, 25), (⟨"CrewPayModel", "pays", "(II)V"⟩, 25)]
theorem lw_r1 : ∀ q ∈ lw_privs_1, lw_okq q := List.forall_mem_cons.mpr ⟨lw_p0, List.forall_mem_cons.mpr ⟨lw_p1, List.forall_mem_cons.mpr ⟨lw_p2, List.forall_mem_cons.mpr ⟨lw_p3, List.forall_mem_cons.mpr ⟨lw_p4, List.forall_mem_cons.mpr ⟨lw_p5, List.forall_mem_cons.mpr ⟨lw_p6, List.forall_mem_cons.mpr ⟨lw_p7, List.forall_mem_cons.mpr ⟨lw_p8, List.forall_mem_cons.mpr ⟨lw_p9, List.forall_mem_cons.mpr ⟨lw_p10, List.forall_mem_cons.mpr ⟨lw_p11, List.forall_mem_cons.mpr ⟨lw_p12, List.forall_mem_cons.mpr ⟨lw_p13, List.forall_mem_cons.mpr ⟨lw_p14, List.forall_mem_cons.mpr ⟨lw_p15, fun _ h => absurd h List.not_mem_nil⟩⟩⟩⟩⟩⟩⟩⟩⟩⟩⟩⟩⟩⟩⟩⟩
theorem lw_p16 : lw_okq (⟨"CrewPayModel", "garnishes", "(II)I"⟩, 25) := ⟨⟨by decide +kernel, by decide +kernel⟩, List.mem_of_getElem? (i := 582) (by decide +kernel), List.mem_of_getElem? (i := 772) (by decide +kernel), List.mem_of_getElem? (i := 773) (by decide +kernel)⟩
def lw_privs_2 : List (MethodName × Nat) := [(⟨"CrewPayModel", "garnishes", "(II)I"⟩, 25)]
theorem lw_r2 : ∀ q ∈ lw_privs_2, lw_okq q := List.forall_mem_cons.mpr ⟨lw_p16, fun _ h => absurd h List.not_mem_nil⟩
def lw_privs : List (MethodName × Nat) := lw_privs_1 ++ (lw_privs_2)
def lw_tbl : List Cond := k2_sels lw_privs ++ tables_1
theorem lw_privs_ok : ∀ q ∈ lw_privs, lw_okq q := by
  show ∀ q ∈ lw_privs_1 ++ (lw_privs_2), lw_okq q
  exact List.forall_mem_append.mpr ⟨lw_r1, lw_r2⟩
end
section
/-! ===== BEGIN words of one list among another's, by their places ===== -/
theorem goodIn_r {big : List Cond} (ws : List Cond) (ps : List Nat) (hp : ws = ps.filterMap (fun i => big[i]?)) (h : ws.all goodWord = true) : GoodIn big ws := by
  intro w hw
  have h1 := List.all_eq_true.mp h w hw
  rw [hp] at hw
  obtain ⟨i, -, hi⟩ := List.mem_filterMap.mp hw
  have hm : w ∈ big := by first | exact List.mem_of_getElem? hi | exact List.getElem?_mem hi
  exact ⟨hm, good_of_word h1⟩
theorem goodIn_app {big a b : List Cond} (ha : GoodIn big a) (hb : GoodIn big b) : GoodIn big (a ++ b) := fun w h => (List.mem_append.mp h).elim (ha w) (hb w)
theorem goodIn_ca {big a b : List Cond} {c : Cond} (ha : GoodIn big (c :: a)) (hb : GoodIn big b) : GoodIn big (c :: (a ++ b)) := fun w h => (List.mem_cons.mp h).elim (fun e => ha w (List.mem_cons.mpr (Or.inl e))) (fun h => (List.mem_append.mp h).elim (fun h => ha w (List.mem_cons.mpr (Or.inr h))) (hb w))
theorem goodIn_sub {big ws : List Cond} (hm : ∀ w ∈ ws, w ∈ big) (h : ws.all goodWord = true) : GoodIn big ws := fun w hw => ⟨hm w hw, good_of_word (List.all_eq_true.mp h w hw)⟩
/-! ===== END ===== -/

/-! ===== BEGIN exceptions that leave a method, and their catching by the caller (launches without stack traces) ===== -/
section VXA
/-! The laws vx_back, vx_callV, vx_callS, vx_callSW, vx_throw0, vx_throwS follow proofs of the library, with one case more: JvmDerived/Free/Laws.lean (Back.of_free), Shelf42/LK1.lean (callV, callS), Shelf/KitTraced.lean (throwNew0V, throwNewS). -/
/-- where a method has thrown q: the class by its name, the cell, what was written, the world -/
def vx_T (XC : String → State → State → Prop) (st : State) (q : Addr) (t : State) (mc ms : Nat) (free : Addr → Prop) : Prop :=
  ∃ (E : String) (ce : Cell) (L : List Loc), XC E st t ∧ t.heap[q]? = some ce ∧ ce.vm = .none ∧ st.vm.findClass E = some ce.cls ∧ st.WarmedH t.vm ∧ st.sameButNew ({ t with vm := st.vm } : State) L mc ms ∧ ∀ z ∈ L, free z.base
def vx_Q (Qc : Array Value → State → Outcome → State → Prop) (XC : String → State → State → Prop) (mc ms : Nat) (free : Addr → Prop) : Array Value → State → Outcome → State → Prop := fun a st o t =>
  (Qc a st o t ∧ ∃ L, FrameEnd st o t L mc ms ∧ ∀ q ∈ L, free q.base) ∨ ∃ q, o = .threw q ∧ vx_T XC st q t mc ms free
/-- a callee that returns or throws -/
def vx_Met (l : Launch) (y : MethodName) (ws : List Cond) (rm : Room) (Pc : Array Value → State → Prop) (Qc : Array Value → State → Outcome → State → Prop) (XC : String → State → State → Prop) (mc ms : Nat) (free : Addr → Prop) : Prop :=
  MetFree l y (headSpec ws rm) Pc (fun _ _ _ _ _ => True) (vx_Q Qc XC mc ms free)
def vx_Post (XC : String → State → State → Prop) (mc ms : Nat) (free : Addr → Prop) : Pt → Array Value → Addr → Pt → Prop := fun A a q B =>
  ∃ (g : JFrame) (mk : MethodId) (t : State) (L : List Loc) (E : String) (ce : Cell), B.U.heap = t.heap ∧ B.U.vm = t.vm ∧ XC E (A.U.calling g mk a) t ∧ t.heap[q]? = some ce ∧ ce.vm = .none ∧ A.U.vm.findClass E = some ce.cls ∧ B.locs = A.locs ++ L ∧ (∀ z ∈ L, free z.base) ∧ B.cells = A.cells + mc ∧ B.slots = A.slots + ms
def vx_Back (l : Launch) (R : Room) (p : Program) (e : Env) (below : List Frame) (s : State) (sargs : Array Value) (y : MethodName) (len W9 : Nat)
    (Pre : Pt → Array Value → Prop) (Post : Pt → Array Value → Option Value → Pt → Prop) (PostX : Pt → Array Value → Addr → Pt → Prop) : Prop :=
  ∀ (m : MethodId) (meth : Method) (c : Code) (A : Pt) (g : JFrame) (ig : Instr) (mk : MethodId) (a : Array Value),
    Stand p l e R s m sargs below meth c A.U A.locs A.cells A.slots → g.method = m → g.locals.size = c.maxLocals → decode c.code g.pc = .ok (ig, len) →
    2 * g.monitorRoom + (g.stack.map fun v => v.category).sum ≤ W9 → A.U.methodNamed? y = some mk → Pre A a →
    (∃ (v : Option Value) (B : Pt), Stand p l e R s m sargs below meth c B.U B.locs B.cells B.slots ∧ Post A a v B ∧
      Steps p.tables e below (doInvoke e (A.U.setTop g) [] mk a).1 (B.U.setTop { g with pc := g.pc + len, stack := v.toList ++ g.stack })) ∨
    (∃ (q : Addr) (B : Pt), Stand p l e R s m sargs below meth c B.U B.locs B.cells B.slots ∧ PostX A a q B ∧
      Steps p.tables e below (doInvoke e (A.U.setTop g) [] mk a).1 ((B.U.setTop g).pushFrame (.throwing q)))
section Payer
variable {l : Launch} {R : Room} {p : Program} {e : Env} {below : List Frame} {s : State} {sargs : Array Value} {y : MethodName} {len W9 : Nat}
theorem vx_back {ws : List Cond} {rm : Room} {Pc : Array Value → State → Prop} {Qc : Array Value → State → Outcome → State → Prop} {XC : String → State → State → Prop} {mc ms : Nat} {free : Addr → Prop} {bytes : ByteArray} {maxL : Nat} {ret : Option FieldType}
    (hM : vx_Met l y ws rm Pc Qc XC mc ms free) (hblind : FrameBlind Pc) (hrc : rm.cells = mc) (hrs : rm.slots = ms)
    (hframes : rm.frames + 1 ≤ R.frames) (hlocals : W9 + (maxL + 11) + rm.locals ≤ R.locals)
    (hws : ∀ w ∈ ws, ∀ a' U, s.WarmedH U.vm → w.before a' U = true) (hcode : Cond.code y bytes maxL ret ∈ ws) (hinit : ∀ a' U, s.WarmedH U.vm → (Cond.initialized y.cls).before a' U = true) :
    vx_Back l R p e below s sargs y len W9 (PreOf R mc ms Pc) (PostOf Qc mc ms free) (vx_Post XC mc ms free) := by
  intro m meth c A g ig mk a X hg hsize hdg hW hn hp
  have h1 : (headSpec ws rm).pre.before a A.U = true := atoms_intro fun w hw => hws w hw _ _ X.warmed
  have h2 : (Cond.code y bytes maxL ret).before a A.U = true := hws _ hcode _ _ X.warmed
  have h3 : (Cond.initialized y.cls).before a A.U = true := hinit _ _ X.warmed
  have h4 : A.cells + (headSpec ws rm).room.cells ≤ R.cells := by rw [show (headSpec ws rm).room.cells = mc from hrc]; exact hp.1
  have h5 : A.slots + (headSpec ws rm).room.slots ≤ R.slots := by rw [show (headSpec ws rm).room.slots = ms from hrs]; exact hp.2.1
  have hPc : Pc a (A.U.calling g mk a) := hblind _ _ _ _ hp.2.2
  obtain ⟨U, Ls, c0, s0⟩ := A
  dsimp only [Pt.U, Pt.locs, Pt.cells, Pt.slots] at h1 h2 h3 h4 h5 X hn hPc ⊢
  obtain ⟨methY, cY, hmY, hcY, -, hlY, -, -, -, -⟩ := Cond.code_spec hn h2
  obtain ⟨kY, hkY, -⟩ := className_of_methodNamed hn
  have hinitY : kY.init = .initialized := Cond.initialized_spec (findClass_of_methodNamed hn) hkY h3
  have h : At U g.method c below := by rw [hg]; exact X.here
  have hlocals9 : W9 + (maxL + 11) + (headSpec ws rm).room.locals ≤ R.locals := hlocals
  have happ : (headSpec ws rm).appliesLoose y e.platform (U.calling g mk a) = true :=
    Spec.appliesLoose_calling (g := g) h hdg hn hkY hinitY
      (X.room_calling (g := g) (R' := (headSpec ws rm).room) hsize hmY hcY hframes (by rw [hlY]; omega) h4 h5) h1
  obtain ⟨mid, hmid⟩ := h.above
  have hfr : (U.setTop g).frames = (.java g :: mid) ++ below := by rw [State.frames_setTop' g h.top, hmid]; rfl
  obtain ⟨o, s₂, hsteps, -, hend, hq⟩ := Steps.callFree hM p X.admits X.cas X.clock (acts := []) hfr happ hPc trivial
  have hq' : vx_Q Qc XC mc ms free a (U.calling g mk a) o s₂ := hq
  rw [State.frames_setTop' g h.top] at hend
  obtain ⟨g₀, hg0⟩ := Option.isSome_iff_exists.mp h.top
  obtain ⟨r, hr⟩ := State.topJava?_eq_some.mp hg0
  have hr' : (({ U with heap := s₂.heap, slotsUsed := s₂.slotsUsed } : State).setVm s₂.vm).frames = .java g₀ :: r := hr
  rcases hq' with ⟨hqc, L, hfe, hL⟩ | ⟨q, rfl, E, ce, L, hx, hce, hcv, hcl, hW₂, hsm, hL⟩
  · obtain ⟨⟨v, rfl⟩, hW₂, e2, q2, q3, q4, q5, q6⟩ := id hfe
    have e3 : s₂ = ({ (U.calling g mk a).setFrames s₂.frames with heap := s₂.heap, slotsUsed := s₂.slotsUsed } : State).setVm s₂.vm := by
      have : s₂ = ({ s₂ with vm := (U.calling g mk a).vm } : State).setVm s₂.vm := rfl
      rw [e2] at this
      exact this
    obtain ⟨c₂, i₂, len₂, hc₂, hd₂, hf₂⟩ := hend
    have hW' : U.WarmedH s₂.vm := hW₂
    have hcc : c₂ = c := by
      have h1 : s₂.code? g.method = U.code? g.method := by
        rw [State.code?_eq, State.code?_eq, hW'.alike.method?]
      exact Option.some.inj (hc₂.symm.trans (h1.trans h.code))
    subst hcc
    have hlen : len₂ = len := by rw [hdg] at hd₂; cases hd₂; rfl
    subst hlen
    have hs₂ : s₂ = (({ U with heap := s₂.heap, slotsUsed := s₂.slotsUsed } : State).setVm s₂.vm).setTop { g with pc := g.pc + len₂, stack := v.toList ++ g.stack } := by
      refine e3.trans ?_
      rw [hf₂, State.calling_eq h.top, State.setFrames_setFrames, State.setTop_of_frames _ hr', hr]
      rfl
    have hsame : U.sameButNew ({ U with heap := s₂.heap, slotsUsed := s₂.slotsUsed } : State) L mc ms := by
      refine ⟨?_, q2, q3, q4, q5, q6⟩
      obtain ⟨t, ht, -⟩ := State.frames_cons hr
      show ({ U with heap := s₂.heap, slotsUsed := s₂.slotsUsed } : State) = { U.setFrames U.frames with heap := s₂.heap, slotsUsed := s₂.slotsUsed }
      rw [State.setFrames_self ht]
    subst hg
    refine Or.inl ⟨v, ⟨(({ U with heap := s₂.heap, slotsUsed := s₂.slotsUsed } : State).setVm s₂.vm), Ls ++ L, c0 + mc, s0 + ms⟩,
      ⟨X.admits, X.cas, X.clock, X.frames, X.room, X.hears, X.method, X.code, (X.here.setHeapUsed s₂.heap s₂.slotsUsed).setVm hW'.alike, X.tail, State.WarmedH.trans X.warmed hW', X.limits, X.bytes, X.same.trans (hsame.setVm s.vm)⟩,
      ⟨g, mk, s₂, L, rfl, rfl, hqc, rfl, hL, rfl, rfl⟩, ?_⟩
    show Steps p.tables e below _ ((({ U with heap := s₂.heap, slotsUsed := s₂.slotsUsed } : State).setVm s₂.vm).setTop { g with pc := g.pc + len₂, stack := v.toList ++ g.stack })
    rw [← hs₂]
    exact hsteps
  · obtain ⟨e2, q2, q3, q4, q5, q6⟩ := id hsm
    have e3 : s₂ = ({ (U.calling g mk a).setFrames s₂.frames with heap := s₂.heap, slotsUsed := s₂.slotsUsed } : State).setVm s₂.vm := by
      have : s₂ = ({ s₂ with vm := (U.calling g mk a).vm } : State).setVm s₂.vm := rfl
      rw [e2] at this
      exact this
    have hf₂ : s₂.frames = .throwing q :: .java g :: U.frames.tail := hend
    have hW' : U.WarmedH s₂.vm := hW₂
    have hs₂ : s₂ = ((({ U with heap := s₂.heap, slotsUsed := s₂.slotsUsed } : State).setVm s₂.vm).setTop g).pushFrame (.throwing q) := by
      refine e3.trans ?_
      rw [hf₂, State.calling_eq h.top, State.setFrames_setFrames, State.pushFrame, State.frames_setTop _ hr', State.setTop_of_frames _ hr', State.setFrames_setFrames, hr]
      rfl
    have hsame : U.sameButNew ({ U with heap := s₂.heap, slotsUsed := s₂.slotsUsed } : State) L mc ms := by
      refine ⟨?_, q2, q3, q4, q5, q6⟩
      obtain ⟨t, ht, -⟩ := State.frames_cons hr
      show ({ U with heap := s₂.heap, slotsUsed := s₂.slotsUsed } : State) = { U.setFrames U.frames with heap := s₂.heap, slotsUsed := s₂.slotsUsed }
      rw [State.setFrames_self ht]
    subst hg
    refine Or.inr ⟨q, ⟨(({ U with heap := s₂.heap, slotsUsed := s₂.slotsUsed } : State).setVm s₂.vm), Ls ++ L, c0 + mc, s0 + ms⟩,
      ⟨X.admits, X.cas, X.clock, X.frames, X.room, X.hears, X.method, X.code, (X.here.setHeapUsed s₂.heap s₂.slotsUsed).setVm hW'.alike, X.tail, State.WarmedH.trans X.warmed hW', X.limits, X.bytes, X.same.trans (hsame.setVm s.vm)⟩,
      ⟨g, mk, s₂, L, E, ce, rfl, rfl, hx, hce, hcv, hcl, rfl, hL, rfl, rfl⟩, ?_⟩
    show Steps p.tables e below _ (((({ U with heap := s₂.heap, slotsUsed := s₂.slotsUsed } : State).setVm s₂.vm).setTop g).pushFrame (.throwing q))
    rw [← hs₂]
    exact hsteps
end Payer
section Calls
variable {p : Program} {l : Launch} {e : Env} {R : Room} {s : State} {m : MethodId} {args : Array Value} {below : List Frame} {meth : Method} {c : Code} {T : State} {locs : List Loc} {cells slots : Nat}
theorem vx_callV (X : Stand p l e R s m args below meth c T locs cells slots) (hexec : p.tables.exec = Jvm.exec) {own C : String} {index : Nat} {y : MethodName} {bytes : ByteArray} {maxL : Nat} {ret : Option FieldType}
    (hown : s.vm.findClass own = some m.cls) (hlink : (Cond.methodLink own index y).before args s = true) (hinst : (Cond.instanceMethod y).before args s = true) (hsel : (Cond.selects C y y).before args s = true)
    (hcode : (Cond.code y bytes maxL ret).before args s = true) (hy : y.cls ≠ "java/lang/invoke/MethodHandle" ∧ y.cls ≠ "java/lang/invoke/VarHandle")
    {W9 : Nat} {Pre : Pt → Array Value → Prop} {Post : Pt → Array Value → Option Value → Pt → Prop} {PostX : Pt → Array Value → Addr → Pt → Prop} (hK : vx_Back l R p e below s args y 3 W9 Pre Post PostX)
    {b : Addr} {cellB : Cell} (hcell : T.heap[b]? = some cellB) (hobj : cellB.vm.isStatics = false) (hcls : s.vm.findClass C = some cellB.cls)
    {g : JFrame} (hg : g.method = m) (hsize : g.locals.size = c.maxLocals) {argsL rest : List Value} (hlen : ∀ sig, parseMethodDescriptor y.desc = some sig → argsL.length = sig.parameters.length)
    (hstack : g.stack = argsL.reverse ++ .ref b :: rest) (hW : 2 * g.monitorRoom + (rest.map fun v => v.category).sum ≤ W9) (hdg : decode c.code g.pc = .ok (.invokevirtual index, 3))
    (hpre : ∀ vm₁, s.WarmedH vm₁ → Pre ⟨T.setVm vm₁, locs, cells, slots⟩ (Value.ref b :: argsL).toArray) :
    (∃ (v : Option Value) (vm₁ : Vm) (B : Pt), s.WarmedH vm₁ ∧ Stand p l e R s m args below meth c B.U B.locs B.cells B.slots ∧ Post ⟨T.setVm vm₁, locs, cells, slots⟩ (Value.ref b :: argsL).toArray v B ∧
      ∀ target, Steps p.tables e below (B.U.setTop { g with pc := g.pc + 3, stack := v.toList ++ rest }) target → Steps p.tables e below (T.setTop g) target) ∨
    (∃ (q : Addr) (vm₁ : Vm) (B : Pt), s.WarmedH vm₁ ∧ Stand p l e R s m args below meth c B.U B.locs B.cells B.slots ∧ PostX ⟨T.setVm vm₁, locs, cells, slots⟩ (Value.ref b :: argsL).toArray q B ∧
      Steps p.tables e below (T.setTop g) ((B.U.setTop { g with stack := rest }).pushFrame (.throwing q))) := by
  obtain ⟨mk, methM, hnamed, hmethM, hstM, habM⟩ := Cond.instanceMethod_spec hinst
  obtain ⟨methM', cM, hmethM', -, -, -, -, -, -, hsigM⟩ := Cond.code_spec hnamed hcode
  cases hmethM.symm.trans hmethM'
  obtain ⟨c2, r2, m2, q1, q2, q3, q4, kP, hkP, hkPi⟩ := Cond.selects_spec hsel
  cases hcls.symm.trans q1
  cases (State.methodFound?_of_named hnamed hy).symm.trans q2
  cases hnamed.symm.trans q3
  have hselP : selectMethod e.platform s.vm cellB.cls mk = .method mk := by rw [Launch.admits_selectMethod X.admits]; exact q4
  obtain ⟨vm₁, X₁, hstep₁⟩ := X.invokevirtual hexec hown hlink hnamed hmethM hstM hkP hkPi hy (a := b) (cell := cellB) hcell
    (fun z h => by rw [h] at hobj; cases hobj) hselP hmethM habM hkP hkPi (g := g) hg (argsL := argsL) (rest := rest) (hlen _ hsigM) hstack hdg
  rcases hK m meth c ⟨T.setVm vm₁, locs, cells, slots⟩ { g with stack := rest } (.invokevirtual index) mk (Value.ref b :: argsL).toArray X₁ hg hsize hdg hW (X₁.named hnamed) (hpre vm₁ X₁.warmed) with ⟨v, B, X', hpost, hsteps⟩ | ⟨q, B, X', hpost, hsteps⟩
  · exact Or.inl ⟨v, vm₁, B, X₁.warmed, X', hpost, fun target h => hstep₁ _ fun acts => by rw [doInvoke_state]; exact hsteps.trans h⟩
  · exact Or.inr ⟨q, vm₁, B, X₁.warmed, X', hpost, hstep₁ _ fun acts => by rw [doInvoke_state]; exact hsteps⟩
theorem vx_callS (X : Stand p l e R s m args below meth c T locs cells slots) (hexec : p.tables.exec = Jvm.exec) {own : String} {index : Nat} {y : MethodName} {bytes : ByteArray} {maxL : Nat} {ret : Option FieldType}
    (hown : s.vm.findClass own = some m.cls) (hlink : (Cond.methodLink own index y).before args s = true) (hstat : (Cond.static y).before args s = true) (hinit : (Cond.initialized y.cls).before args s = true)
    (hcode : (Cond.code y bytes maxL ret).before args s = true) (hy : y.cls ≠ "java/lang/invoke/MethodHandle" ∧ y.cls ≠ "java/lang/invoke/VarHandle")
    {W9 : Nat} {Pre : Pt → Array Value → Prop} {Post : Pt → Array Value → Option Value → Pt → Prop} {PostX : Pt → Array Value → Addr → Pt → Prop} (hK : vx_Back l R p e below s args y 3 W9 Pre Post PostX)
    {g : JFrame} (hg : g.method = m) (hsize : g.locals.size = c.maxLocals) {argsL rest : List Value} (hlen : ∀ sig, parseMethodDescriptor y.desc = some sig → argsL.length = sig.parameters.length)
    (hstack : g.stack = argsL.reverse ++ rest) (hW : 2 * g.monitorRoom + (rest.map fun v => v.category).sum ≤ W9) (hdg : decode c.code g.pc = .ok (.invokestatic index, 3))
    (hpre : ∀ vm₁, s.WarmedH vm₁ → Pre ⟨T.setVm vm₁, locs, cells, slots⟩ argsL.toArray) :
    (∃ (v : Option Value) (vm₁ : Vm) (B : Pt), s.WarmedH vm₁ ∧ Stand p l e R s m args below meth c B.U B.locs B.cells B.slots ∧ Post ⟨T.setVm vm₁, locs, cells, slots⟩ argsL.toArray v B ∧
      ∀ target, Steps p.tables e below (B.U.setTop { g with pc := g.pc + 3, stack := v.toList ++ rest }) target → Steps p.tables e below (T.setTop g) target) ∨
    (∃ (q : Addr) (vm₁ : Vm) (B : Pt), s.WarmedH vm₁ ∧ Stand p l e R s m args below meth c B.U B.locs B.cells B.slots ∧ PostX ⟨T.setVm vm₁, locs, cells, slots⟩ argsL.toArray q B ∧
      Steps p.tables e below (T.setTop g) ((B.U.setTop { g with stack := rest }).pushFrame (.throwing q))) := by
  obtain ⟨mk, hnamed⟩ := Cond.code_named hcode
  obtain ⟨methM, cM, hmethM, -, -, -, -, -, -, hsigM⟩ := Cond.code_spec hnamed hcode
  have hstatic : methM.isStatic = true := Cond.static_spec hnamed hmethM hstat
  obtain ⟨kP, hkP, -⟩ := className_of_methodNamed hnamed
  have hinitP : kP.init = .initialized := Cond.initialized_spec (findClass_of_methodNamed hnamed) hkP hinit
  obtain ⟨vm₁, X₁, hstep₁⟩ := X.invokestatic hexec hown hlink hnamed hmethM hstatic hkP hinitP hy (g := g) hg (argsL := argsL) (rest := rest) (hlen _ hsigM) hstack hdg
  rcases hK m meth c ⟨T.setVm vm₁, locs, cells, slots⟩ { g with stack := rest } (.invokestatic index) mk argsL.toArray X₁ hg hsize hdg hW (X₁.named hnamed) (hpre vm₁ X₁.warmed) with ⟨v, B, X', hpost, hsteps⟩ | ⟨q, B, X', hpost, hsteps⟩
  · exact Or.inl ⟨v, vm₁, B, X₁.warmed, X', hpost, fun target h => hstep₁ _ fun acts => by rw [doInvoke_state]; exact hsteps.trans h⟩
  · exact Or.inr ⟨q, vm₁, B, X₁.warmed, X', hpost, hstep₁ _ fun acts => by rw [doInvoke_state]; exact hsteps⟩
end Calls
theorem vx_cls {s : State} {T : State} {vm₁ : Vm} {E : String} {k : ClassId} (hW : s.WarmedH vm₁) (h : (T.setVm vm₁).vm.findClass E = some k) : s.vm.findClass E = some k := by
  have h1 : vm₁.findClass E = some k := h
  rw [hW.alike.findClass] at h1
  exact h1
/-- the method's frame g, with q thrown over it -/
def vx_W (p : Program) (l : Launch) (e : Env) (R : Room) (s : State) (m : MethodId) (args : Array Value) (below : List Frame) (meth : Method) (c : Code) (H : Heap) (locs : List Loc) (cells slots : Nat) (Q : State → Prop) (g : JFrame) (q : Addr) : Prop :=
  ∀ T : State, T.heap = H → Stand p l e R s m args below meth c T locs cells slots → ∃ t, Steps p.tables e below ((T.setTop g).pushFrame (.throwing q)) t ∧ Q t
def vx_Run (p : Program) (l : Launch) (e : Env) (R : Room) (s : State) (m : MethodId) (args : Array Value) (below : List Frame) (meth : Method) (c : Code) (H : Heap) (locs : List Loc) (cells slots mc ms : Nat) (g : JFrame) (rest : List Value) (Qa : State → Outcome → State → Prop) (XC : String → State → State → Prop) (free : Addr → Prop) : Prop :=
  ∀ T : State, T.heap = H → Stand p l e R s m args below meth c T locs cells slots →
    (∃ (v : Option Value) (st₀ t T' : State) (L : List Loc), st₀.heap = H ∧ Stand p l e R s m args below meth c T' (locs ++ L) (cells + mc) (slots + ms) ∧ (∀ q ∈ L, free q.base) ∧ T'.heap = t.heap ∧ T'.vm = t.vm ∧ Qa st₀ (.returned v) t ∧
      Goes p e below T g T' { g with pc := g.pc + 3, stack := v.toList ++ rest }) ∨
    (∃ (q : Addr) (st₀ t T' : State) (L : List Loc) (E : String) (ce : Cell), st₀.heap = H ∧ Stand p l e R s m args below meth c T' (locs ++ L) (cells + mc) (slots + ms) ∧ (∀ z ∈ L, free z.base) ∧ T'.heap = t.heap ∧ T'.vm = t.vm ∧ XC E st₀ t ∧ t.heap[q]? = some ce ∧ ce.vm = .none ∧ s.vm.findClass E = some ce.cls ∧
      Steps p.tables e below (T.setTop g) ((T'.setTop { g with stack := rest }).pushFrame (.throwing q)))
def vx_X {S : Type} (px : S → Prop) (B : String → S → State → Prop) (A : Nat → Prop) : String → State → State → Prop := fun E st t => ∃ u : S, px u ∧ B E u t ∧ va_F A st t
section Runs
variable {p : Program} {l : Launch} {e : Env} {R : Room} {s : State} {m : MethodId} {args : Array Value} {below : List Frame} {meth : Method} {c : Code} {H : Heap} {locs : List Loc} {cells slots : Nat}
variable {y : MethodName} {bytes cc : ByteArray} {maxL nL mc ms n index : Nat} {ret : Option FieldType} {ws : List Cond} {rm : Room} {Pc : Array Value → State → Prop} {Qc : Array Value → State → Outcome → State → Prop} {XC : String → State → State → Prop} {free : Addr → Prop} {Ts : List Cond} {own C : String} {b : Addr} {As rest : List Value} {g : JFrame}
theorem vx_callBack (cb : CallB R s args own index y bytes maxL ret ws rm mc ms n) (hM : vx_Met l y ws rm Pc Qc XC mc ms free) (hbl : FrameBlind Pc) : vx_Back l R p e below s args y 3 8 (PreOf R mc ms Pc) (PostOf Qc mc ms free) (vx_Post XC mc ms free) := by
  obtain ⟨hrc, hrs, hfr, hlo, hws, hcw, -, hini, -⟩ := cb
  exact vx_back (bytes := bytes) (maxL := maxL) (ret := ret) hM hbl hrc hrs hfr hlo hws hcw (fun a' U hW => word_at hW (Or.inl (by first | rfl | simp [Cond.onTables, Cond.keeps, Cond.steady])) hini)
theorem vx_runV (S : CallFix p m c cc nL s args Ts own) (hM : vx_Met l y ws rm Pc Qc XC mc ms free) (cw : CallW R s args own C index y bytes maxL ret ws rm mc ms n) (hp : PreV s H C b Pc As)
    (hg : g.method = m) (hn : As.length = n) (hsize : g.locals.size = nL) (hstack : g.stack = As.reverse ++ .ref b :: rest) (hW : 2 * g.monitorRoom + (rest.map fun v => v.category).sum ≤ 8) (hdg : decode cc g.pc = .ok (.invokevirtual index, 3)) (hf : cells + mc ≤ R.cells ∧ slots + ms ≤ R.slots) :
    vx_Run p l e R s m args below meth c H locs cells slots mc ms g rest (Qc (Value.ref b :: As).toArray) XC free := by
  have hK : vx_Back l R p e below s args y 3 8 (PreOf R mc ms Pc) (PostOf Qc mc ms free) (vx_Post XC mc ms free) := vx_callBack cw.1 hM hp.1
  obtain ⟨⟨-, -, -, -, -, -, hcode, -, hy, hlen, hl⟩, hin, hse⟩ := cw
  obtain ⟨hx, hb, hml, ho, -⟩ := S
  obtain ⟨-, ⟨cellB, hcB, hoB, hclB⟩, hPc⟩ := hp
  intro T hT X
  rcases vx_callV X hx (C := C) (bytes := bytes) (maxL := maxL) (ret := ret) ho hl hin hse hcode hy hK (by rw [hT]; exact hcB) hoB hclB hg (hsize.trans hml.symm) (argsL := As) (rest := rest) (fun sig h => hn.trans (hlen sig h)) hstack hW (by rw [hb]; exact hdg)
    (fun vm₁ hW₁ => ⟨hf.1, hf.2, hPc (T.setVm vm₁) hT hW₁⟩) with ⟨v, vm₁, ⟨U', l2, c2, s2⟩, hW₁, X', ⟨g', mk, t, L, e1, e2, hq, h1, hL, h2, h3⟩, st⟩ | ⟨q, vm₁, ⟨U', l2, c2, s2⟩, hW₁, X', ⟨g', mk, t, L, E, ce, e1, e2, hq, hce, hcv, hcl, h1, hL, h2, h3⟩, st⟩
  · dsimp only [Pt.U, Pt.locs, Pt.cells, Pt.slots] at X' e1 e2 h1 h2 h3 st
    subst h1; subst h2; subst h3
    exact Or.inl ⟨v, (T.setVm vm₁).calling g' mk (Value.ref b :: As).toArray, t, U', L, hT, X', hL, e1, e2, hq, st⟩
  · dsimp only [Pt.U, Pt.locs, Pt.cells, Pt.slots] at X' e1 e2 h1 h2 h3 st hcl
    subst h1; subst h2; subst h3
    exact Or.inr ⟨q, (T.setVm vm₁).calling g' mk (Value.ref b :: As).toArray, t, U', L, E, ce, hT, X', hL, e1, e2, hq, hce, hcv, vx_cls hW₁ hcl, st⟩
theorem vx_runS (S : CallFix p m c cc nL s args Ts own) (hM : vx_Met l y ws rm Pc Qc XC mc ms free) (cw : CallB R s args own index y bytes maxL ret ws rm mc ms n ∧ (Cond.static y).before args s = true) (hp : PreS s H Pc As)
    (hg : g.method = m) (hn : As.length = n) (hsize : g.locals.size = nL) (hstack : g.stack = As.reverse ++ rest) (hW : 2 * g.monitorRoom + (rest.map fun v => v.category).sum ≤ 8) (hdg : decode cc g.pc = .ok (.invokestatic index, 3)) (hf : cells + mc ≤ R.cells ∧ slots + ms ≤ R.slots) :
    vx_Run p l e R s m args below meth c H locs cells slots mc ms g rest (Qc As.toArray) XC free := by
  have hK : vx_Back l R p e below s args y 3 8 (PreOf R mc ms Pc) (PostOf Qc mc ms free) (vx_Post XC mc ms free) := vx_callBack cw.1 hM hp.1
  obtain ⟨⟨-, -, -, -, -, -, hcode, hini, hy, hlen, hl⟩, hstt⟩ := cw
  obtain ⟨hx, hb, hml, ho, -⟩ := S
  intro T hT X
  rcases vx_callS X hx (bytes := bytes) (maxL := maxL) (ret := ret) ho hl hstt hini hcode hy hK hg (hsize.trans hml.symm) (argsL := As) (rest := rest) (fun sig h => hn.trans (hlen sig h)) hstack hW (by rw [hb]; exact hdg)
    (fun vm₁ hW₁ => ⟨hf.1, hf.2, hp.2 (T.setVm vm₁) hT hW₁⟩) with ⟨v, vm₁, ⟨U', l2, c2, s2⟩, hW₁, X', ⟨g', mk, t, L, e1, e2, hq, h1, hL, h2, h3⟩, st⟩ | ⟨q, vm₁, ⟨U', l2, c2, s2⟩, hW₁, X', ⟨g', mk, t, L, E, ce, e1, e2, hq, hce, hcv, hcl, h1, hL, h2, h3⟩, st⟩
  · dsimp only [Pt.U, Pt.locs, Pt.cells, Pt.slots] at X' e1 e2 h1 h2 h3 st
    subst h1; subst h2; subst h3
    exact Or.inl ⟨v, (T.setVm vm₁).calling g' mk As.toArray, t, U', L, hT, X', hL, e1, e2, hq, st⟩
  · dsimp only [Pt.U, Pt.locs, Pt.cells, Pt.slots] at X' e1 e2 h1 h2 h3 st hcl
    subst h1; subst h2; subst h3
    exact Or.inr ⟨q, (T.setVm vm₁).calling g' mk As.toArray, t, U', L, E, ce, hT, X', hL, e1, e2, hq, hce, hcv, vx_cls hW₁ hcl, st⟩
end Runs
section Rows
variable {p : Program} {l : Launch} {e : Env} {R : Room} {s : State} {m : MethodId} {args : Array Value} {below : List Frame} {meth : Method} {c : Code} {H : Heap} {locs : List Loc} {cells slots : Nat} {Q : State → Prop}
variable {mc ms : Nat} {free : Addr → Prop} {A0 A1 : Nat → Prop} {H0 : Heap} {a : Array Value} {pc : Nat} {ls : Array Slot} {st0 rest : List Value}
theorem vx_keep {st₀ t T' : State} {L : List Loc} (h0 : st₀.heap = H) (e1 : T'.heap = t.heap) (hS : va_S A0 H0 H locs) (hA : ∀ q, q < H.size → A1 q → A0 q) (hf : ∀ q, free q → A0 q) (hL : ∀ q ∈ L, free q.base) (hF : va_F A1 st₀ t) :
    H.size ≤ T'.heap.size ∧ (∀ q : Nat, q < H.size → ¬ A1 q → T'.heap[q]? = H[q]?) ∧ va_S A0 H0 T'.heap (locs ++ L) := by
  obtain ⟨hz, hk⟩ := hF
  rw [h0] at hz hk
  exact ⟨by rw [e1]; exact hz, fun q h1 h2 => by rw [e1]; exact hk q h1 h2,
    ⟨Nat.le_trans hS.1 (by rw [e1]; exact hz), fun q h1 h2 => by rw [e1, hk q (Nat.lt_of_lt_of_le h1 hS.1) (fun z => h2 (hA q (Nat.lt_of_lt_of_le h1 hS.1) z))]; exact hS.2.1 q h1 h2, fun q hq => by
      rcases List.mem_append.mp hq with h | h
      · exact hS.2.2 q h
      · exact hf _ (hL q h)⟩⟩
theorem vx_calli {S SX : Type} {post : Int32 → S → Prop} {px : SX → Prop} {B : S → State → Prop} {BX : String → SX → State → Prop} {AX : Nat → Prop} (hr : vx_Run p l e R s m args below meth c H locs cells slots mc ms (F0 m pc ls st0) rest (va_Qi post B A1 a) (vx_X px BX AX) free) (hS : va_S A0 H0 H locs) (hA : ∀ q, q < H.size → A1 q → A0 q) (hf : ∀ q, free q → A0 q) (hAX : ∀ q, q < H.size → AX q → A0 q)
    (kx : ∀ (E : String) (ce : Cell) (q9 : Addr) (u : SX) (t : State) (H1 : Heap) (locs1 : List Loc), t.heap = H1 → s.vm.Alike t.vm → px u → BX E u t → H.size ≤ H1.size → (∀ q : Nat, q < H.size → ¬ AX q → H1[q]? = H[q]?) → va_S A0 H0 H1 locs1 → H1[q9]? = some ce → ce.vm = .none → s.vm.findClass E = some ce.cls → vx_W p l e R s m args below meth c H1 locs1 (cells + mc) (slots + ms) Q (F0 m pc ls rest) q9)
    (kk : ∀ (r : Int32) (u : S) (t : State) (H1 : Heap) (locs1 : List Loc), t.heap = H1 → s.vm.Alike t.vm → post r u → B u t → H.size ≤ H1.size → (∀ q : Nat, q < H.size → ¬ A1 q → H1[q]? = H[q]?) → va_S A0 H0 H1 locs1 → W p l e R s m args below meth c H1 locs1 (cells + mc) (slots + ms) Q (F0 m (pc + 3) ls (.int r :: rest))) : W p l e R s m args below meth c H locs cells slots Q (F0 m pc ls st0) := by
  intro T hT X
  rcases hr T hT X with ⟨v, st₀, t, T', L, h0, X', hL, e1, e2, ⟨⟨r, u, hv, hp, hb⟩, hF⟩, st⟩ | ⟨q, st₀, t, T', L, E, ce, h0, X', hL, e1, e2, ⟨u, hp, hb, hF⟩, hce, hcv, hcl, st⟩
  · cases hv
    obtain ⟨k1, k2, k3⟩ := vx_keep h0 e1 hS hA hf hL hF
    obtain ⟨t2, a1, b1⟩ := kk r u t T'.heap (locs ++ L) e1.symm (by rw [← e2]; exact X'.warmed.alike) hp hb k1 k2 k3 T' rfl X'
    exact ⟨t2, st t2 a1, b1⟩
  · obtain ⟨k1, k2, k3⟩ := vx_keep h0 e1 hS hAX hf hL hF
    obtain ⟨t2, a1, b1⟩ := kx E ce q u t T'.heap (locs ++ L) e1.symm (by rw [← e2]; exact X'.warmed.alike) hp hb k1 k2 k3 (by rw [e1]; exact hce) hcv hcl T' rfl X'
    exact ⟨t2, st.trans a1, b1⟩
theorem vx_calll {S SX : Type} {post : Int64 → S → Prop} {px : SX → Prop} {B : S → State → Prop} {BX : String → SX → State → Prop} {AX : Nat → Prop} (hr : vx_Run p l e R s m args below meth c H locs cells slots mc ms (F0 m pc ls st0) rest (va_Ql post B A1 a) (vx_X px BX AX) free) (hS : va_S A0 H0 H locs) (hA : ∀ q, q < H.size → A1 q → A0 q) (hf : ∀ q, free q → A0 q) (hAX : ∀ q, q < H.size → AX q → A0 q)
    (kx : ∀ (E : String) (ce : Cell) (q9 : Addr) (u : SX) (t : State) (H1 : Heap) (locs1 : List Loc), t.heap = H1 → s.vm.Alike t.vm → px u → BX E u t → H.size ≤ H1.size → (∀ q : Nat, q < H.size → ¬ AX q → H1[q]? = H[q]?) → va_S A0 H0 H1 locs1 → H1[q9]? = some ce → ce.vm = .none → s.vm.findClass E = some ce.cls → vx_W p l e R s m args below meth c H1 locs1 (cells + mc) (slots + ms) Q (F0 m pc ls rest) q9)
    (kk : ∀ (r : Int64) (u : S) (t : State) (H1 : Heap) (locs1 : List Loc), t.heap = H1 → s.vm.Alike t.vm → post r u → B u t → H.size ≤ H1.size → (∀ q : Nat, q < H.size → ¬ A1 q → H1[q]? = H[q]?) → va_S A0 H0 H1 locs1 → W p l e R s m args below meth c H1 locs1 (cells + mc) (slots + ms) Q (F0 m (pc + 3) ls (.long r :: rest))) : W p l e R s m args below meth c H locs cells slots Q (F0 m pc ls st0) := by
  intro T hT X
  rcases hr T hT X with ⟨v, st₀, t, T', L, h0, X', hL, e1, e2, ⟨⟨r, u, hv, hp, hb⟩, hF⟩, st⟩ | ⟨q, st₀, t, T', L, E, ce, h0, X', hL, e1, e2, ⟨u, hp, hb, hF⟩, hce, hcv, hcl, st⟩
  · cases hv
    obtain ⟨k1, k2, k3⟩ := vx_keep h0 e1 hS hA hf hL hF
    obtain ⟨t2, a1, b1⟩ := kk r u t T'.heap (locs ++ L) e1.symm (by rw [← e2]; exact X'.warmed.alike) hp hb k1 k2 k3 T' rfl X'
    exact ⟨t2, st t2 a1, b1⟩
  · obtain ⟨k1, k2, k3⟩ := vx_keep h0 e1 hS hAX hf hL hF
    obtain ⟨t2, a1, b1⟩ := kx E ce q u t T'.heap (locs ++ L) e1.symm (by rw [← e2]; exact X'.warmed.alike) hp hb k1 k2 k3 (by rw [e1]; exact hce) hcv hcl T' rfl X'
    exact ⟨t2, st.trans a1, b1⟩
theorem vx_callf {S SX : Type} {post : UInt32 → S → Prop} {px : SX → Prop} {B : S → State → Prop} {BX : String → SX → State → Prop} {AX : Nat → Prop} (hr : vx_Run p l e R s m args below meth c H locs cells slots mc ms (F0 m pc ls st0) rest (va_Qf post B A1 a) (vx_X px BX AX) free) (hS : va_S A0 H0 H locs) (hA : ∀ q, q < H.size → A1 q → A0 q) (hf : ∀ q, free q → A0 q) (hAX : ∀ q, q < H.size → AX q → A0 q)
    (kx : ∀ (E : String) (ce : Cell) (q9 : Addr) (u : SX) (t : State) (H1 : Heap) (locs1 : List Loc), t.heap = H1 → s.vm.Alike t.vm → px u → BX E u t → H.size ≤ H1.size → (∀ q : Nat, q < H.size → ¬ AX q → H1[q]? = H[q]?) → va_S A0 H0 H1 locs1 → H1[q9]? = some ce → ce.vm = .none → s.vm.findClass E = some ce.cls → vx_W p l e R s m args below meth c H1 locs1 (cells + mc) (slots + ms) Q (F0 m pc ls rest) q9)
    (kk : ∀ (r : UInt32) (u : S) (t : State) (H1 : Heap) (locs1 : List Loc), t.heap = H1 → s.vm.Alike t.vm → post r u → B u t → H.size ≤ H1.size → (∀ q : Nat, q < H.size → ¬ A1 q → H1[q]? = H[q]?) → va_S A0 H0 H1 locs1 → W p l e R s m args below meth c H1 locs1 (cells + mc) (slots + ms) Q (F0 m (pc + 3) ls (.float r :: rest))) : W p l e R s m args below meth c H locs cells slots Q (F0 m pc ls st0) := by
  intro T hT X
  rcases hr T hT X with ⟨v, st₀, t, T', L, h0, X', hL, e1, e2, ⟨⟨r, u, hv, hp, hb⟩, hF⟩, st⟩ | ⟨q, st₀, t, T', L, E, ce, h0, X', hL, e1, e2, ⟨u, hp, hb, hF⟩, hce, hcv, hcl, st⟩
  · cases hv
    obtain ⟨k1, k2, k3⟩ := vx_keep h0 e1 hS hA hf hL hF
    obtain ⟨t2, a1, b1⟩ := kk r u t T'.heap (locs ++ L) e1.symm (by rw [← e2]; exact X'.warmed.alike) hp hb k1 k2 k3 T' rfl X'
    exact ⟨t2, st t2 a1, b1⟩
  · obtain ⟨k1, k2, k3⟩ := vx_keep h0 e1 hS hAX hf hL hF
    obtain ⟨t2, a1, b1⟩ := kx E ce q u t T'.heap (locs ++ L) e1.symm (by rw [← e2]; exact X'.warmed.alike) hp hb k1 k2 k3 (by rw [e1]; exact hce) hcv hcl T' rfl X'
    exact ⟨t2, st.trans a1, b1⟩
theorem vx_calld {S SX : Type} {post : UInt64 → S → Prop} {px : SX → Prop} {B : S → State → Prop} {BX : String → SX → State → Prop} {AX : Nat → Prop} (hr : vx_Run p l e R s m args below meth c H locs cells slots mc ms (F0 m pc ls st0) rest (va_Qd post B A1 a) (vx_X px BX AX) free) (hS : va_S A0 H0 H locs) (hA : ∀ q, q < H.size → A1 q → A0 q) (hf : ∀ q, free q → A0 q) (hAX : ∀ q, q < H.size → AX q → A0 q)
    (kx : ∀ (E : String) (ce : Cell) (q9 : Addr) (u : SX) (t : State) (H1 : Heap) (locs1 : List Loc), t.heap = H1 → s.vm.Alike t.vm → px u → BX E u t → H.size ≤ H1.size → (∀ q : Nat, q < H.size → ¬ AX q → H1[q]? = H[q]?) → va_S A0 H0 H1 locs1 → H1[q9]? = some ce → ce.vm = .none → s.vm.findClass E = some ce.cls → vx_W p l e R s m args below meth c H1 locs1 (cells + mc) (slots + ms) Q (F0 m pc ls rest) q9)
    (kk : ∀ (r : UInt64) (u : S) (t : State) (H1 : Heap) (locs1 : List Loc), t.heap = H1 → s.vm.Alike t.vm → post r u → B u t → H.size ≤ H1.size → (∀ q : Nat, q < H.size → ¬ A1 q → H1[q]? = H[q]?) → va_S A0 H0 H1 locs1 → W p l e R s m args below meth c H1 locs1 (cells + mc) (slots + ms) Q (F0 m (pc + 3) ls (.double r :: rest))) : W p l e R s m args below meth c H locs cells slots Q (F0 m pc ls st0) := by
  intro T hT X
  rcases hr T hT X with ⟨v, st₀, t, T', L, h0, X', hL, e1, e2, ⟨⟨r, u, hv, hp, hb⟩, hF⟩, st⟩ | ⟨q, st₀, t, T', L, E, ce, h0, X', hL, e1, e2, ⟨u, hp, hb, hF⟩, hce, hcv, hcl, st⟩
  · cases hv
    obtain ⟨k1, k2, k3⟩ := vx_keep h0 e1 hS hA hf hL hF
    obtain ⟨t2, a1, b1⟩ := kk r u t T'.heap (locs ++ L) e1.symm (by rw [← e2]; exact X'.warmed.alike) hp hb k1 k2 k3 T' rfl X'
    exact ⟨t2, st t2 a1, b1⟩
  · obtain ⟨k1, k2, k3⟩ := vx_keep h0 e1 hS hAX hf hL hF
    obtain ⟨t2, a1, b1⟩ := kx E ce q u t T'.heap (locs ++ L) e1.symm (by rw [← e2]; exact X'.warmed.alike) hp hb k1 k2 k3 (by rw [e1]; exact hce) hcv hcl T' rfl X'
    exact ⟨t2, st.trans a1, b1⟩
theorem vx_callv {S SX : Type} {post : S → Prop} {px : SX → Prop} {B : S → State → Prop} {BX : String → SX → State → Prop} {AX : Nat → Prop} (hr : vx_Run p l e R s m args below meth c H locs cells slots mc ms (F0 m pc ls st0) rest (va_Qv post B A1 a) (vx_X px BX AX) free) (hS : va_S A0 H0 H locs) (hA : ∀ q, q < H.size → A1 q → A0 q) (hf : ∀ q, free q → A0 q) (hAX : ∀ q, q < H.size → AX q → A0 q)
    (kx : ∀ (E : String) (ce : Cell) (q9 : Addr) (u : SX) (t : State) (H1 : Heap) (locs1 : List Loc), t.heap = H1 → s.vm.Alike t.vm → px u → BX E u t → H.size ≤ H1.size → (∀ q : Nat, q < H.size → ¬ AX q → H1[q]? = H[q]?) → va_S A0 H0 H1 locs1 → H1[q9]? = some ce → ce.vm = .none → s.vm.findClass E = some ce.cls → vx_W p l e R s m args below meth c H1 locs1 (cells + mc) (slots + ms) Q (F0 m pc ls rest) q9)
    (kk : ∀ (u : S) (t : State) (H1 : Heap) (locs1 : List Loc), t.heap = H1 → s.vm.Alike t.vm → post u → B u t → H.size ≤ H1.size → (∀ q : Nat, q < H.size → ¬ A1 q → H1[q]? = H[q]?) → va_S A0 H0 H1 locs1 → W p l e R s m args below meth c H1 locs1 (cells + mc) (slots + ms) Q (F0 m (pc + 3) ls (rest))) : W p l e R s m args below meth c H locs cells slots Q (F0 m pc ls st0) := by
  intro T hT X
  rcases hr T hT X with ⟨v, st₀, t, T', L, h0, X', hL, e1, e2, ⟨⟨u, hv, hp, hb⟩, hF⟩, st⟩ | ⟨q, st₀, t, T', L, E, ce, h0, X', hL, e1, e2, ⟨u, hp, hb, hF⟩, hce, hcv, hcl, st⟩
  · cases hv
    obtain ⟨k1, k2, k3⟩ := vx_keep h0 e1 hS hA hf hL hF
    obtain ⟨t2, a1, b1⟩ := kk u t T'.heap (locs ++ L) e1.symm (by rw [← e2]; exact X'.warmed.alike) hp hb k1 k2 k3 T' rfl X'
    exact ⟨t2, st t2 a1, b1⟩
  · obtain ⟨k1, k2, k3⟩ := vx_keep h0 e1 hS hAX hf hL hF
    obtain ⟨t2, a1, b1⟩ := kx E ce q u t T'.heap (locs ++ L) e1.symm (by rw [← e2]; exact X'.warmed.alike) hp hb k1 k2 k3 (by rw [e1]; exact hce) hcv hcl T' rfl X'
    exact ⟨t2, st.trans a1, b1⟩
/-- caught by the row x of this method's table; the rows ahead don't take it -/
theorem vx_catch {own name : String} {E : String} {ce : Cell} {q : Addr} (hown : s.vm.findClass own = some m.cls) (pre : List ExceptionTableEntry) (x : ExceptionTableEntry) (suf : List ExceptionTableEntry) (hsplit : c.exceptionTable.toList = pre ++ x :: suf)
    (hpass : ∀ z ∈ pre, covers z pc = false ∨ (z.catchType ≠ 0 ∧ ∃ nm : String, (Cond.classLink own z.catchType nm).before args s = true ∧ va_Nc E nm s)) (hx : covers x pc = true) (h0 : x.catchType ≠ 0)
    (hlink : (Cond.classLink own x.catchType name).before args s = true) (hcast : (Cond.castable E name).before args s = true) (hcell : H[q]? = some ce) (hv : ce.vm = .none) (hcl : s.vm.findClass E = some ce.cls)
    (kk : W p l e R s m args below meth c H locs cells slots Q (F0 m x.handlerPc ls [.ref q])) : vx_W p l e R s m args below meth c H locs cells slots Q (F0 m pc ls rest) q := by
  intro T hT X
  have hpl : e.platform.magicAccessors = ({} : Platform).magicAccessors := by rw [X.admits.platform]
  obtain ⟨c3, c4, hc3, hc4, hasg⟩ := Cond.castable_spec hcast
  cases Option.some.inj (hc3.symm.trans hcl)
  obtain ⟨c5, hc5, hcl5⟩ := Cond.classLink_spec hown hlink e.platform hpl
  cases Option.some.inj (hc4.symm.trans hc5)
  obtain ⟨vm', X', st⟩ := X.thenCaughtThrough q (g := F0 m pc ls rest) rfl (Steps.refl _) (by rw [hT]; exact hcell) (by rw [hv]; rfl) (by obtain ⟨k9, h9, -⟩ := Vm.findClass_spec hcl; exact ⟨k9, h9⟩) pre x suf hsplit
    (fun z hz => by
      rcases hpass z hz with h | ⟨hz0, nm, hl1, hn1⟩
      · exact Or.inl h
      · obtain ⟨c6, hc6, hcl6⟩ := Cond.classLink_spec hown hl1 e.platform hpl
        obtain ⟨a8, b8, h1, h2, h3⟩ := hn1
        cases Option.some.inj (h1.symm.trans hcl)
        cases Option.some.inj (h2.symm.trans hc6)
        exact Or.inr ⟨hz0, _, hcl6, h3⟩) hx (Or.inr ⟨h0, c4, hcl5, hasg⟩)
  obtain ⟨t, a1, b1⟩ := kk (T.setVm vm') hT X'
  exact ⟨t, st.trans a1, b1⟩
end Rows
section Ends
variable {p : Program} {l : Launch} {e : Env} {R : Room} {s : State} {m : MethodId} {args : Array Value} {below : List Frame} {meth : Method} {c : Code} {H : Heap} {locs : List Loc} {cells slots : Nat} {Q : State → Prop}
variable {mc ms : Nat} {free : Addr → Prop} {A0 A1 : Nat → Prop} {H0 : Heap} {a : Array Value} {ls : Array Slot} {st0 rest : List Value}
variable {Qc : Array Value → State → Outcome → State → Prop} {XC : String → State → State → Prop}
/-- what a body that may throw owes at its end -/
def vx_MQ (below : List Frame) (Qc : Array Value → State → Outcome → State → Prop) (XC : String → State → State → Prop) (a : Array Value) (s : State) (mc ms : Nat) (free : Addr → Prop) : State → Prop := fun t =>
  ∃ o, t.status = .running ∧ Ended t below o ∧ vx_Q Qc XC mc ms free a s o t
theorem vx_ret {g : JFrame} {mc ms : Nat} (k : W p l e R s m args below meth c H locs cells slots (MQ below Qc args s mc ms free) g) : W p l e R s m args below meth c H locs cells slots (vx_MQ below Qc XC args s mc ms free) g := by
  intro T hT X
  obtain ⟨t, a1, o, b1, b2, b3, b4⟩ := k T hT X
  exact ⟨t, a1, o, b1, b2, Or.inl ⟨b3, b4⟩⟩
/-- not caught here: it goes on to the caller -/
theorem vx_widen {g : JFrame} {q : Addr} {k n : Nat} (h1 : cells ≤ k) (h2 : slots ≤ n) (kk : vx_W p l e R s m args below meth c H locs k n Q g q) : vx_W p l e R s m args below meth c H locs cells slots Q g q := fun T hT X => kk T hT (stand_widen X h1 h2)
theorem vx_out {pc : Nat} {E : String} {ce : Cell} {q : Addr} {mc ms : Nat} (hout : ∀ x ∈ c.exceptionTable.toList, covers x pc = false) (hlocks : meth.locks = false) (hcell : H[q]? = some ce) (hv : ce.vm = .none) (hcl : s.vm.findClass E = some ce.cls)
    (hx : ∀ t : State, t.heap = H → s.vm.Alike t.vm → XC E s t) (hf : ∀ z ∈ locs, free z.base) (hc : cells ≤ mc) (hs : slots ≤ ms) :
    vx_W p l e R s m args below meth c H locs cells slots (vx_MQ below Qc XC args s mc ms free) (F0 m pc ls rest) q := by
  intro T hT X
  obtain ⟨st1, hrun, hend, hW, hsm⟩ := X.leaveThrown q (g := F0 m pc ls rest) rfl rfl rfl hout hlocks
  have hcell9 : (T.setFrames (.throwing q :: below)).heap[q]? = some ce := by
    show T.heap[q]? = some ce
    rw [hT]; exact hcell
  exact ⟨_, st1, .threw q, hrun, hend, Or.inr ⟨q, rfl, E, ce, locs, hx _ hT hW.alike, hcell9, hv, hcl, hW, hsm.mono hc hs, hf⟩⟩
theorem vx_frame {U : State} {k n : Nat} (h : s.sameButNew ({ U with vm := s.vm } : State) locs k n) : s.heap.size ≤ U.heap.size ∧ ∀ q : Nat, q < s.heap.size → (∀ z ∈ locs, z.base ≠ q) → U.heap[q]? = s.heap[q]? := by
  obtain ⟨-, h2, -, -, -, h6⟩ := h
  refine ⟨h2, fun q hq hz => ?_⟩
  obtain ⟨c9, e1, e2, e3, e4⟩ := h6 q _ (Array.getElem?_eq_getElem hq)
  have hs : c9.slots = (s.heap[q]).slots := Array.ext_getElem? fun i => e4 i fun hm => hz _ hm rfl
  have h9 : c9 = s.heap[q] := by
    rw [hs] at e2
    exact e2
  have e5 : U.heap[q]? = some c9 := e1
  rw [e5, h9, Array.getElem?_eq_getElem hq]
/-- the words of a throw but the four that speak of the heap -/
def vx_no (w : Cond) : Bool := decide (w ≠ .isRef (.static Bundle.tN "UNASSIGNED_STACK" Bundle.steD)) && decide (w ≠ .isRef (.static Bundle.tN "SUPPRESSED_SENTINEL" Bundle.listD)) && decide (w ≠ .laysStatic Bundle.tN "UNASSIGNED_STACK" Bundle.steD) && decide (w ≠ .laysStatic Bundle.tN "SUPPRESSED_SENTINEL" Bundle.listD)
def vx_at0 (own : String) (ic : Nat) (X : String) (names : List String) : List Cond := (Bundle.ownAtoms0 own ic X names).filter vx_no
def vx_atS (own : String) (ic : Nat) (X : String) (names : List String) : List Cond := (Bundle.ownAtoms own ic X names).filter vx_no
/-- a word that the tables alone decide, or a good one -/
def vx_ot (w : Cond) : Bool := w.onTables || goodWord w
theorem vx_ot_at {args a' : Array Value} {s U : State} {w : Cond} (hW : s.WarmedH U.vm) (hvm : s.vm = U.vm) (hg : vx_ot w = true) (h : w.before args s = true) : w.before a' U = true := by
  simp only [vx_ot, Bool.or_eq_true] at hg
  rcases hg with hg | hg
  · exact va_tabs hg hvm h
  · exact word_at hW (good_of_word hg) h
/-- a list's words: the good ones out of the method's own list, the others by premises of their own -/
theorem vx_hat {args : Array Value} {s : State} {L B : List Cond} (h1 : ∀ w ∈ L.filter goodWord, w.before args s = true) (h2 : ∀ w ∈ L.filter (fun w => !goodWord w), w ∈ B) (h3 : ∀ w ∈ B, w.before args s = true) : ∀ w ∈ L, w.before args s = true := by
  intro w hw
  by_cases g : goodWord w = true
  · exact h1 w (List.mem_filter.mpr ⟨hw, g⟩)
  · refine h3 w (h2 w (List.mem_filter.mpr ⟨hw, ?_⟩))
    show (!goodWord w) = true
    cases hgw : goodWord w
    · rfl
    · exact absurd hgw g
theorem vx_c {args : Array Value} {s : State} {w : Cond} {B : List Cond} (h : w.before args s = true) (t : ∀ w ∈ B, w.before args s = true) : ∀ w' ∈ w :: B, w'.before args s = true := fun w' h' => (List.mem_cons.mp h').elim (fun e => by rw [e]; exact h) (t w')
theorem vx_n {args : Array Value} {s : State} : ∀ w ∈ ([] : List Cond), w.before args s = true := fun _ h => nomatch h
theorem vx_own {args : Array Value} {s : State} {L : List Cond} (h1 : ∀ w ∈ L.filter vx_no, w.before args s = true)
    (hU : (Cond.isRef (.static Bundle.tN "UNASSIGNED_STACK" Bundle.steD)).before args s = true) (hN : (Cond.isRef (.static Bundle.tN "SUPPRESSED_SENTINEL" Bundle.listD)).before args s = true)
    (lU : (Cond.laysStatic Bundle.tN "UNASSIGNED_STACK" Bundle.steD).before args s = true) (lN : (Cond.laysStatic Bundle.tN "SUPPRESSED_SENTINEL" Bundle.listD).before args s = true) : ∀ w ∈ L, w.before args s = true := by
  intro w hw
  by_cases e1 : w = .isRef (.static Bundle.tN "UNASSIGNED_STACK" Bundle.steD)
  · rw [e1]; exact hU
  · by_cases e2 : w = .isRef (.static Bundle.tN "SUPPRESSED_SENTINEL" Bundle.listD)
    · rw [e2]; exact hN
    · by_cases e3 : w = .laysStatic Bundle.tN "UNASSIGNED_STACK" Bundle.steD
      · rw [e3]; exact lU
      · by_cases e4 : w = .laysStatic Bundle.tN "SUPPRESSED_SENTINEL" Bundle.listD
        · rw [e4]; exact lN
        · exact h1 w (List.mem_filter.mpr ⟨hw, by unfold vx_no; rw [decide_eq_true e1, decide_eq_true e2, decide_eq_true e3, decide_eq_true e4]; rfl⟩)
/-- where a static field lies, its class's statics cell in H -/
def vx_L (C n d : String) (A : Nat → Prop) (U : State) (H : Heap) : Prop := ∃ (c : ClassId) (k : Class) (i : Nat) (f : Field) (a : Nat) (cell : Cell), U.vm.findClass C = some c ∧ U.fieldFound? C n d = some (c, k, i, f) ∧ f.isStatic = true ∧ k.statics = some a ∧ H[a]? = some cell ∧ cell.vm.isStatics = true ∧ cell.cls = c ∧ f.slot < cell.slots.size ∧ k.staticTypes[f.slot]? = some f.type ∧ ¬ A a
theorem vx_L.moved {C n d : String} {A : Nat → Prop} {u U : State} {H : Heap} (hvm : u.vm.Alike U.vm) (h : vx_L C n d A u H) : vx_L C n d A U H := by
  obtain ⟨c, k, i, f, a, cell, h1, h2, h3, h4, h5, h6, h7, h8, h9, h10⟩ := h
  obtain ⟨k', hi', he⟩ := State.fieldFound?_setVm hvm h2
  exact ⟨c, k', i, f, a, cell, by rw [hvm.findClass]; exact h1, hi', h3, by rw [he]; exact h4, h5, h6, h7, h8, by rw [he]; exact h9, h10⟩
theorem vx_L.kept {C n d : String} {A : Nat → Prop} {U : State} {H H1 : Heap} (h : vx_L C n d A U H) (hq : ∀ a : Nat, a < H.size → ¬ A a → H1[a]? = H[a]?) : vx_L C n d A U H1 := by
  obtain ⟨c, k, i, f, a, cell, h1, h2, h3, h4, h5, h6, h7, h8, h9, h10⟩ := h
  exact ⟨c, k, i, f, a, cell, h1, h2, h3, h4, by rw [hq a (Array.getElem?_eq_some_iff.mp h5).1 h10]; exact h5, h6, h7, h8, h9, h10⟩
theorem vx_L.narrow {C n d : String} {A B : Nat → Prop} {U : State} {H : Heap} (h : vx_L C n d A U H) (hAB : ∀ q, B q → A q) : vx_L C n d B U H := by
  obtain ⟨c, k, i, f, a, cell, h1, h2, h3, h4, h5, h6, h7, h8, h9, h10⟩ := h
  exact ⟨c, k, i, f, a, cell, h1, h2, h3, h4, h5, h6, h7, h8, h9, fun z => h10 (hAB _ z)⟩
theorem vx_L.word {C n d : String} {A : Nat → Prop} {s : State} {args : Array Value} (h : vx_L C n d A s s.heap) : (Cond.laysStatic C n d).before args s = true := by
  obtain ⟨c, k, i, f, a, cell, h1, h2, h3, h4, h5, h6, h7, h8, h9, -⟩ := h
  show (Cond.laysStatic C n d).holds args s none s [] = true
  exact Cond.laysStatic_of h1 h2 h3 h4 h5 h6 h7 h8 h9
/-- .. and what it holds: null or some reference -/
def vx_Zq (C n d : String) (A : Nat → Prop) (U : State) (H : Heap) : Prop := va_Zq C n d A U H ∧ vx_L C n d A U H
theorem vx_Zq.moved {C n d : String} {A : Nat → Prop} {u U : State} {H : Heap} (hvm : u.vm.Alike U.vm) (h : vx_Zq C n d A u H) : vx_Zq C n d A U H := ⟨va_Zq.moved hvm h.1, vx_L.moved hvm h.2⟩
theorem vx_Zq.kept {C n d : String} {A : Nat → Prop} {U : State} {H H1 : Heap} (h : vx_Zq C n d A U H) (hq : ∀ a : Nat, a < H.size → ¬ A a → H1[a]? = H[a]?) : vx_Zq C n d A U H1 := ⟨va_Zq.kept h.1 hq, vx_L.kept h.2 hq⟩
theorem vx_Zq.narrow {C n d : String} {A B : Nat → Prop} {U : State} {H : Heap} (h : vx_Zq C n d A U H) (hAB : ∀ q, B q → A q) : vx_Zq C n d B U H := ⟨va_Zq.narrow h.1 hAB, vx_L.narrow h.2 hAB⟩
theorem vx_Zqof {args : Array Value} {s : State} {C n d : String} {A : Nat → Prop} (hl : (Cond.laysStatic C n d).before args s = true) (hini : (Cond.initialized C).before args s = true) (h : (Cond.isRef (.static C n d)).before args s = true) (hA : ∀ a : Nat, a < s.heap.size → ¬ A a) : vx_Zq C n d A s s.heap := by
  refine ⟨va_Zqof hl hini h hA, ?_⟩
  obtain ⟨c, k, i, f, a, cell, h1, h2, h3, h4, h5, h6, h7, h8, h9⟩ := Cond.laysStatic_spec hl
  exact ⟨c, k, i, f, a, cell, h1, h2, h3, h4, h5, h6, h7, h8, h9, hA a (Array.getElem?_eq_some_iff.mp h5).1⟩
theorem vx_isRef {C n d : String} {v : Value} {A : Nat → Prop} {s : State} {args : Array Value} (h : va_Z C n d v A s s.heap) (hv : v.isRef = true) : (Cond.isRef (.static C n d)).before args s = true := by
  obtain ⟨cf, kf, fi, f, a, cell, h1, h2, h3, h4, h5, h6, h7, -⟩ := h
  have he : (Term.static C n d).eval args s none [] s = some v := by
    simp [Term.eval, State.fieldNamed?, h1, h2, h4, h5, h6, h7]
  simp only [Cond.before, Cond.holds, Cond.value, he]
  cases v <;> simp_all [Value.isRef]
theorem vx_isRefq {C n d : String} {A : Nat → Prop} {s : State} {args : Array Value} (h : va_Zq C n d A s s.heap) : (Cond.isRef (.static C n d)).before args s = true := by
  rcases h with h | ⟨t, h⟩
  · exact vx_isRef h rfl
  · exact vx_isRef h rfl
/-- the same frame, seen from here: as if the method were called anew in this heap -/
theorem vx_rebase {T : State} (X : Stand p l e R s m args below meth c T locs cells slots) {R' : Room} (hf : R'.frames ≤ R.frames) (hl : R'.locals ≤ R.locals) (hc : cells + R'.cells ≤ R.cells) (hs : slots + R'.slots ≤ R.slots) :
    Stand p l e R' ((T.setVm s.vm).setFrames (.invoking m args :: below)) m args below meth c T [] 0 0 := by
  have htop : (T.setVm s.vm).topJava?.isSome := X.here.top
  have hF : ((T.setVm s.vm).setFrames (.invoking m args :: below)).frames = .invoking m args :: below := State.frames_setFrames _ (State.cur_lt_of_top htop)
  obtain ⟨g₀, hg0⟩ := Option.isSome_iff_exists.mp htop
  obtain ⟨r, hr⟩ := State.topJava?_eq_some.mp hg0
  have hl9 : e.platform.stackLimits (T.setVm s.vm).me = e.platform.stackLimits s.me := X.limits
  have hb9 : (T.setVm s.vm).me.stackBytes = s.me.stackBytes := X.bytes
  refine ⟨X.admits, X.cas, X.clock, hF, ?_, X.hears, X.method, X.code, X.here, X.tail, X.warmed, ?_, ?_, ?_⟩
  · have h := X.room
    have hU : ((T.setVm s.vm).setFrames (.invoking m args :: below)).localsInUse = s.localsInUse := by
      rw [State.localsInUse_invoking hF (meth := meth) (c := c) X.method X.code, State.localsInUse_invoking X.frames X.method X.code]
    simp only [State.hasRoom, Bool.and_eq_true, decide_eq_true_eq] at h ⊢
    obtain ⟨⟨⟨⟨h1, h2, h3, h4, h5, h6⟩, h7⟩, h8⟩, h9⟩ := h
    rw [X.frames, List.length_cons] at h2 h3
    have q1 := X.heapSize
    have q2 := X.used
    simp only [hF, hU, List.length_cons, State.stackLimits_setFrames, State.stackBytes_setFrames, hl9, hb9]
    refine ⟨⟨⟨⟨by omega, by omega, by omega, by omega, by omega, h6⟩, ?_⟩, ?_⟩, X.book⟩
    · show T.heap.size + R'.cells ≤ e.platform.maxCells
      omega
    · show T.slotsUsed + R'.slots ≤ e.platform.maxSlots
      omega
  · rw [State.stackLimits_setFrames]; rfl
  · rw [State.stackBytes_setFrames]; rfl
  · refine ⟨?_, Nat.le_refl _, Nat.le_refl _, ?_, ?_, fun a c9 h9 => ⟨c9, h9, rfl, rfl, fun _ _ => rfl⟩⟩
    · obtain ⟨t, ht, -⟩ := State.frames_cons hr
      show T.setVm s.vm = { ((T.setVm s.vm).setFrames (.invoking m args :: below)).setFrames (T.setVm s.vm).frames with heap := T.heap, slotsUsed := T.slotsUsed }
      rw [State.setFrames_setFrames, State.setFrames_self ht]
      rfl
    · show T.slotsUsed = T.slotsUsed + ((T.heap.toList.drop T.heap.size).map (·.slots.size)).sum
      rw [List.drop_eq_nil_of_le (Nat.le_of_eq Array.length_toList)]
      rfl
    · show ((T.heap.toList.drop T.heap.size).map (·.slots.size)).sum ≤ 0
      rw [List.drop_eq_nil_of_le (Nat.le_of_eq Array.length_toList)]
      exact Nat.le_refl _
/-- 'throw new E()': new; dup; invokespecial; athrow -/
theorem vx_throw0 {cc : ByteArray} {pc : Nat} (hexec : p.tables.exec = Jvm.exec) (hb : c.code = cc) (hl : l.stackTraces = false) {own cls : String} {names : List String} {ik ic mc ms : Nat} {A : Nat → Prop}
    (hown : s.vm.findClass own = some m.cls) (hcls : Bundle.fit cls = true) (hnames : ∀ n ∈ names, Bundle.fit n = true)
    (hk : (Cond.classLink own ik cls).before args s = true) (hini : (Cond.initialized cls).before args s = true) (hat : ∀ w ∈ vx_at0 own ic cls names, w.before args s = true)
    (hgood : ∀ w ∈ Cond.classLink own ik cls :: Cond.initialized cls :: vx_at0 own ic cls names, vx_ot w = true)
    (hU : vx_Zq Bundle.tN "UNASSIGNED_STACK" Bundle.steD A s s.heap) (hN : vx_Zq Bundle.tN "SUPPRESSED_SENTINEL" Bundle.listD A s s.heap) (hS : va_S A s.heap H locs) (hsize : ls.size = c.maxLocals)
    (d0 : decode cc pc = .ok (.new ik, 3)) (d3 : decode cc (pc + 3) = .ok (.dup, 1)) (d4 : decode cc (pc + 4) = .ok (.invokespecial ic, 3)) (d7 : decode cc (pc + 7) = .ok (.athrow, 1))
    (hout : ∀ x ∈ c.exceptionTable.toList, covers x (pc + 7) = false)
    (hRframes : names.length + 3 < R.frames) (hRlocals : (rest.map fun v => v.category).sum + (13 * (names.length + 1) + 42) ≤ R.locals) (hRcells : cells + 1 ≤ R.cells) (hRslots : slots + 6 ≤ R.slots) (hlocks : meth.locks = false)
    (hx : ∀ t : State, s.vm.Alike t.vm → H.size ≤ t.heap.size → (∀ q : Nat, q < H.size → t.heap[q]? = H[q]?) → XC cls s t)
    (hf : ∀ z ∈ locs, free z.base) (hc : cells + 1 ≤ mc) (hs : slots + 6 ≤ ms) :
    W p l e R s m args below meth c H locs cells slots (vx_MQ below Qc XC args s mc ms free) (F0 m pc ls rest) := by
  intro T hT X
  have htr : e.platform.stackTraces = false := (show e.platform.stackTraces = l.stackTraces by rw [X.admits.platform]).trans hl
  have Y := vx_rebase X (R' := { frames := R.frames, locals := R.locals, cells := 1, slots := 6 }) (Nat.le_refl _) (Nat.le_refl _) hRcells hRslots
  obtain ⟨s', hA⟩ : ∃ z, z = (T.setVm s.vm).setFrames (.invoking m args :: below) := ⟨_, rfl⟩
  rw [← hA] at Y
  have hvm : s'.vm = s.vm := by rw [hA]; rfl
  have hhp : s'.heap = H := by rw [hA]; exact hT
  have hW0 : s.WarmedH s'.vm := by rw [hvm]; exact State.WarmedH.refl s
  have hat' : ∀ w ∈ vx_at0 own ic cls names, w.before args s' = true := fun w hw => vx_ot_at hW0 hvm.symm (hgood w (List.mem_cons_of_mem _ (List.mem_cons_of_mem _ hw))) (hat w hw)
  have hk' : (Cond.classLink own ik cls).before args s' = true := vx_ot_at hW0 hvm.symm (hgood _ List.mem_cons_self) hk
  have hini' : (Cond.initialized cls).before args s' = true := vx_ot_at hW0 hvm.symm (hgood _ (List.mem_cons_of_mem _ List.mem_cons_self)) hini
  have hU' : vx_Zq Bundle.tN "UNASSIGNED_STACK" Bundle.steD A s' s'.heap := by rw [hhp]; exact vx_Zq.moved hW0.alike (hU.kept hS.2.1)
  have hN' : vx_Zq Bundle.tN "SUPPRESSED_SENTINEL" Bundle.listD A s' s'.heap := by rw [hhp]; exact vx_Zq.moved hW0.alike (hN.kept hS.2.1)
  have h : ∀ w ∈ Bundle.ownAtoms0 own ic cls names, w.before args s' = true := vx_own hat' (vx_isRefq hU'.1) (vx_isRefq hN'.1) hU'.2.word hN'.2.word
  have hown' : s'.vm.findClass own = some m.cls := by rw [hvm]; exact hown
  have hins : (Cond.instantiable cls 6).before args s' = true := h _ (by simp [Bundle.ownAtoms0])
  obtain ⟨vm₁, cX, kX, hfX, hkX, -, -, X₁, st1⟩ := Y.newCold hexec (own := own) (C := cls) (index := ik) (n := 6) hown' hk' hins hini'
    (g := F0 m pc ls rest) rfl (by rw [hb]; exact d0) (Nat.le_refl _) (Nat.le_refl _)
  generalize hT1 : (T.setVm vm₁).pushCell { cls := cX, slots := kX.instanceTypes.map defaultValue, vm := .none } = T1 at X₁ st1
  have hcat : (Value.ref T.heap.size).category = 1 := rfl
  have hcellA : T1.heap[T.heap.size]? = some (freshCell cX kX) := by rw [← hT1]; exact State.heap_pushCell_size _ _
  have d3' : decode c.code (pc + 3) = .ok (.dup, 1) := by rw [hb]; exact d3
  obtain ⟨U, hsteps, hrun, hend, hW, hsame, ce, hce, hO⟩ := X₁.ctorThrow0 hexec htr (own := own) (cls := cls) (names := names) (ic := ic) hown' hcls hnames h (fun x hx => nomatch hx) hfX hkX hcellA (by rw [hhp, hT]; exact Nat.le_refl _)
    (g := { method := m, pc := pc + 4, locals := ls, stack := .ref T.heap.size :: .ref T.heap.size :: rest, locked := none }) rfl hsize rfl rfl (rest := rest) rfl
    (by rw [hb]; exact d4) (by rw [hb]; exact d7) hout hRframes (by simp only [List.map_cons, List.sum_cons, hcat]; omega) hlocks
  obtain ⟨f1, f2⟩ := vx_frame hsame
  rw [hhp] at f1 f2
  have hWs : s.WarmedH U.vm := State.WarmedH.trans hW0 hW
  have hcl : s.vm.findClass cls = some ce.cls := by
    have h9 := hO.cls
    rw [hvm] at h9
    exact h9
  have hall : s.sameButNew ({ U with vm := s.vm } : State) locs mc ms := by
    subst hA
    obtain ⟨e1, e2⟩ := hsame
    rw [State.setFrames_setFrames] at e1
    have h2 : (T.setVm s.vm).sameButNew ({ U with vm := s.vm } : State) [] (0 + 1) (0 + 6) := ⟨e1, e2⟩
    have h3 := X.same.trans h2
    rw [List.append_nil] at h3
    exact h3.mono hc hs
  refine ⟨U, ?_, .threw T.heap.size, hrun, hend, Or.inr ⟨T.heap.size, rfl, cls, ce, locs, hx U hWs.alike f1 (fun q hq => f2 q hq (fun z hz => nomatch hz)), hce, hO.vm, hcl, hWs, hall, hf⟩⟩
  refine st1 _ ?_
  show Steps p.tables e below (T1.setTop { method := m, pc := pc + 3, locals := ls, stack := .ref T.heap.size :: rest, locked := none }) _
  jvm_step X₁.here [X₁.here.top, hexec, d3', Value.category]
  exact hsteps
/-- 'throw new E("text")': new; dup; ldc; invokespecial; athrow -/
theorem vx_throwS {cc : ByteArray} {pc : Nat} (hexec : p.tables.exec = Jvm.exec) (hb : c.code = cc) (hl : l.stackTraces = false) {own cls text : String} {names : List String} {ik is ic mc ms sa : Nat} {A : Nat → Prop}
    (hown : s.vm.findClass own = some m.cls) (hcls : Bundle.fit cls = true) (hnames : ∀ n ∈ names, Bundle.fit n = true)
    (hk : (Cond.classLink own ik cls).before args s = true) (hini : (Cond.initialized cls).before args s = true) (hstr : vk_R own is text sa s) (hat : ∀ w ∈ vx_atS own ic cls names, w.before args s = true)
    (hgood : ∀ w ∈ Cond.classLink own ik cls :: Cond.initialized cls :: vx_atS own ic cls names, vx_ot w = true)
    (hU : vx_Zq Bundle.tN "UNASSIGNED_STACK" Bundle.steD A s s.heap) (hN : vx_Zq Bundle.tN "SUPPRESSED_SENTINEL" Bundle.listD A s s.heap) (hS : va_S A s.heap H locs) (hsize : ls.size = c.maxLocals)
    (d0 : decode cc pc = .ok (.new ik, 3)) (d3 : decode cc (pc + 3) = .ok (.dup, 1)) (d4 : decode cc (pc + 4) = .ok (.ldc is, 2)) (d6 : decode cc (pc + 6) = .ok (.invokespecial ic, 3)) (d9 : decode cc (pc + 9) = .ok (.athrow, 1))
    (hout : ∀ x ∈ c.exceptionTable.toList, covers x (pc + 9) = false)
    (hRframes : names.length + 3 < R.frames) (hRlocals : (rest.map fun v => v.category).sum + (13 * (names.length + 1) + 43) ≤ R.locals) (hRcells : cells + 1 ≤ R.cells) (hRslots : slots + 6 ≤ R.slots) (hlocks : meth.locks = false)
    (hx : ∀ t : State, s.vm.Alike t.vm → H.size ≤ t.heap.size → (∀ q : Nat, q < H.size → t.heap[q]? = H[q]?) → XC cls s t)
    (hf : ∀ z ∈ locs, free z.base) (hc : cells + 1 ≤ mc) (hs : slots + 6 ≤ ms) :
    W p l e R s m args below meth c H locs cells slots (vx_MQ below Qc XC args s mc ms free) (F0 m pc ls rest) := by
  intro T hT X
  have htr : e.platform.stackTraces = false := (show e.platform.stackTraces = l.stackTraces by rw [X.admits.platform]).trans hl
  have Y := vx_rebase X (R' := { frames := R.frames, locals := R.locals, cells := 1, slots := 6 }) (Nat.le_refl _) (Nat.le_refl _) hRcells hRslots
  obtain ⟨s', hA⟩ : ∃ z, z = (T.setVm s.vm).setFrames (.invoking m args :: below) := ⟨_, rfl⟩
  rw [← hA] at Y
  have hvm : s'.vm = s.vm := by rw [hA]; rfl
  have hhp : s'.heap = H := by rw [hA]; exact hT
  have hW0 : s.WarmedH s'.vm := by rw [hvm]; exact State.WarmedH.refl s
  have hat' : ∀ w ∈ vx_atS own ic cls names, w.before args s' = true := fun w hw => vx_ot_at hW0 hvm.symm (hgood w (List.mem_cons_of_mem _ (List.mem_cons_of_mem _ hw))) (hat w hw)
  have hk' : (Cond.classLink own ik cls).before args s' = true := vx_ot_at hW0 hvm.symm (hgood _ List.mem_cons_self) hk
  have hini' : (Cond.initialized cls).before args s' = true := vx_ot_at hW0 hvm.symm (hgood _ (List.mem_cons_of_mem _ List.mem_cons_self)) hini
  have hU' : vx_Zq Bundle.tN "UNASSIGNED_STACK" Bundle.steD A s' s'.heap := by rw [hhp]; exact vx_Zq.moved hW0.alike (hU.kept hS.2.1)
  have hN' : vx_Zq Bundle.tN "SUPPRESSED_SENTINEL" Bundle.listD A s' s'.heap := by rw [hhp]; exact vx_Zq.moved hW0.alike (hN.kept hS.2.1)
  have h : ∀ w ∈ Bundle.ownAtoms own ic cls names, w.before args s' = true := vx_own hat' (vx_isRefq hU'.1) (vx_isRefq hN'.1) hU'.2.word hN'.2.word
  have hown' : s'.vm.findClass own = some m.cls := by rw [hvm]; exact hown
  have hins : (Cond.instantiable cls 6).before args s' = true := h _ (by simp [Bundle.ownAtoms])
  obtain ⟨vm₁, cX, kX, hfX, hkX, -, -, X₁, st1⟩ := Y.newCold hexec (own := own) (C := cls) (index := ik) (n := 6) hown' hk' hins hini'
    (g := F0 m pc ls rest) rfl (by rw [hb]; exact d0) (Nat.le_refl _) (Nat.le_refl _)
  generalize hT1 : (T.setVm vm₁).pushCell { cls := cX, slots := kX.instanceTypes.map defaultValue, vm := .none } = T1 at X₁ st1
  have hcat : (Value.ref T.heap.size).category = 1 := rfl
  have hcellA : T1.heap[T.heap.size]? = some (freshCell cX kX) := by rw [← hT1]; exact State.heap_pushCell_size _ _
  have d3' : decode c.code (pc + 3) = .ok (.dup, 1) := by rw [hb]; exact d3
  have d4' : decode c.code (pc + 4) = .ok (.ldc is, 2) := by rw [hb]; exact d4
  have hstr' : vk_R own is text sa s' := vk_R.warm hW0 hstr
  obtain ⟨U, hsteps, hrun, hend, hW, hsame, ce, hce, hO⟩ := X₁.ctorThrowS hexec htr (own := own) (cls := cls) (names := names) (ic := ic) hown' hcls hnames h (fun x hx => nomatch hx) hfX hkX hcellA (by rw [hhp, hT]; exact Nat.le_refl _) (msg := .ref sa) rfl
    (g := { method := m, pc := pc + 6, locals := ls, stack := .ref sa :: .ref T.heap.size :: .ref T.heap.size :: rest, locked := none }) rfl hsize rfl rfl (rest := rest) rfl
    (by rw [hb]; exact d6) (by rw [hb]; exact d9) hout hRframes (by simp only [List.map_cons, List.sum_cons, hcat]; omega) hlocks
  obtain ⟨f1, f2⟩ := vx_frame hsame
  rw [hhp] at f1 f2
  have hWs : s.WarmedH U.vm := State.WarmedH.trans hW0 hW
  have hcl : s.vm.findClass cls = some ce.cls := by
    have h9 := hO.cls
    rw [hvm] at h9
    exact h9
  have hall : s.sameButNew ({ U with vm := s.vm } : State) locs mc ms := by
    subst hA
    obtain ⟨e1, e2⟩ := hsame
    rw [State.setFrames_setFrames] at e1
    have h2 : (T.setVm s.vm).sameButNew ({ U with vm := s.vm } : State) [] (0 + 1) (0 + 6) := ⟨e1, e2⟩
    have h3 := X.same.trans h2
    rw [List.append_nil] at h3
    exact h3.mono hc hs
  refine ⟨U, ?_, .threw T.heap.size, hrun, hend, Or.inr ⟨T.heap.size, rfl, cls, ce, locs, hx U hWs.alike f1 (fun q hq => f2 q hq (fun z hz => nomatch hz)), hce, hO.vm, hcl, hWs, hall, hf⟩⟩
  refine st1 _ ?_
  show Steps p.tables e below (T1.setTop { method := m, pc := pc + 3, locals := ls, stack := .ref T.heap.size :: rest, locked := none }) _
  jvm_step X₁.here [X₁.here.top, hexec, d3', Value.category]
  exact X₁.ldcString hexec (own := own) (text := text) (index := is) (a := sa) hown' hstr'.1 hstr'.2
    (g := { method := m, pc := pc + 4, locals := ls, stack := .ref T.heap.size :: .ref T.heap.size :: rest, locked := none }) rfl d4' _ hsteps
/-- 'throw new E("text")', the text by a wide index -/
theorem vx_throwSW {cc : ByteArray} {pc : Nat} (hexec : p.tables.exec = Jvm.exec) (hb : c.code = cc) (hl : l.stackTraces = false) {own cls text : String} {names : List String} {ik is ic mc ms sa : Nat} {A : Nat → Prop}
    (hown : s.vm.findClass own = some m.cls) (hcls : Bundle.fit cls = true) (hnames : ∀ n ∈ names, Bundle.fit n = true)
    (hk : (Cond.classLink own ik cls).before args s = true) (hini : (Cond.initialized cls).before args s = true) (hstr : vk_R own is text sa s) (hat : ∀ w ∈ vx_atS own ic cls names, w.before args s = true)
    (hgood : ∀ w ∈ Cond.classLink own ik cls :: Cond.initialized cls :: vx_atS own ic cls names, vx_ot w = true)
    (hU : vx_Zq Bundle.tN "UNASSIGNED_STACK" Bundle.steD A s s.heap) (hN : vx_Zq Bundle.tN "SUPPRESSED_SENTINEL" Bundle.listD A s s.heap) (hS : va_S A s.heap H locs) (hsize : ls.size = c.maxLocals)
    (d0 : decode cc pc = .ok (.new ik, 3)) (d3 : decode cc (pc + 3) = .ok (.dup, 1)) (d4 : decode cc (pc + 4) = .ok (.ldc_w is, 3)) (d7 : decode cc (pc + 7) = .ok (.invokespecial ic, 3)) (d10 : decode cc (pc + 10) = .ok (.athrow, 1))
    (hout : ∀ x ∈ c.exceptionTable.toList, covers x (pc + 10) = false)
    (hRframes : names.length + 3 < R.frames) (hRlocals : (rest.map fun v => v.category).sum + (13 * (names.length + 1) + 43) ≤ R.locals) (hRcells : cells + 1 ≤ R.cells) (hRslots : slots + 6 ≤ R.slots) (hlocks : meth.locks = false)
    (hx : ∀ t : State, s.vm.Alike t.vm → H.size ≤ t.heap.size → (∀ q : Nat, q < H.size → t.heap[q]? = H[q]?) → XC cls s t)
    (hf : ∀ z ∈ locs, free z.base) (hc : cells + 1 ≤ mc) (hs : slots + 6 ≤ ms) :
    W p l e R s m args below meth c H locs cells slots (vx_MQ below Qc XC args s mc ms free) (F0 m pc ls rest) := by
  intro T hT X
  have htr : e.platform.stackTraces = false := (show e.platform.stackTraces = l.stackTraces by rw [X.admits.platform]).trans hl
  have Y := vx_rebase X (R' := { frames := R.frames, locals := R.locals, cells := 1, slots := 6 }) (Nat.le_refl _) (Nat.le_refl _) hRcells hRslots
  obtain ⟨s', hA⟩ : ∃ z, z = (T.setVm s.vm).setFrames (.invoking m args :: below) := ⟨_, rfl⟩
  rw [← hA] at Y
  have hvm : s'.vm = s.vm := by rw [hA]; rfl
  have hhp : s'.heap = H := by rw [hA]; exact hT
  have hW0 : s.WarmedH s'.vm := by rw [hvm]; exact State.WarmedH.refl s
  have hat' : ∀ w ∈ vx_atS own ic cls names, w.before args s' = true := fun w hw => vx_ot_at hW0 hvm.symm (hgood w (List.mem_cons_of_mem _ (List.mem_cons_of_mem _ hw))) (hat w hw)
  have hk' : (Cond.classLink own ik cls).before args s' = true := vx_ot_at hW0 hvm.symm (hgood _ List.mem_cons_self) hk
  have hini' : (Cond.initialized cls).before args s' = true := vx_ot_at hW0 hvm.symm (hgood _ (List.mem_cons_of_mem _ List.mem_cons_self)) hini
  have hU' : vx_Zq Bundle.tN "UNASSIGNED_STACK" Bundle.steD A s' s'.heap := by rw [hhp]; exact vx_Zq.moved hW0.alike (hU.kept hS.2.1)
  have hN' : vx_Zq Bundle.tN "SUPPRESSED_SENTINEL" Bundle.listD A s' s'.heap := by rw [hhp]; exact vx_Zq.moved hW0.alike (hN.kept hS.2.1)
  have h : ∀ w ∈ Bundle.ownAtoms own ic cls names, w.before args s' = true := vx_own hat' (vx_isRefq hU'.1) (vx_isRefq hN'.1) hU'.2.word hN'.2.word
  have hown' : s'.vm.findClass own = some m.cls := by rw [hvm]; exact hown
  have hins : (Cond.instantiable cls 6).before args s' = true := h _ (by simp [Bundle.ownAtoms])
  obtain ⟨vm₁, cX, kX, hfX, hkX, -, -, X₁, st1⟩ := Y.newCold hexec (own := own) (C := cls) (index := ik) (n := 6) hown' hk' hins hini'
    (g := F0 m pc ls rest) rfl (by rw [hb]; exact d0) (Nat.le_refl _) (Nat.le_refl _)
  generalize hT1 : (T.setVm vm₁).pushCell { cls := cX, slots := kX.instanceTypes.map defaultValue, vm := .none } = T1 at X₁ st1
  have hcat : (Value.ref T.heap.size).category = 1 := rfl
  have hcellA : T1.heap[T.heap.size]? = some (freshCell cX kX) := by rw [← hT1]; exact State.heap_pushCell_size _ _
  have d3' : decode c.code (pc + 3) = .ok (.dup, 1) := by rw [hb]; exact d3
  have d4' : decode c.code (pc + 4) = .ok (.ldc_w is, 3) := by rw [hb]; exact d4
  have hstr' : vk_R own is text sa s' := vk_R.warm hW0 hstr
  obtain ⟨U, hsteps, hrun, hend, hW, hsame, ce, hce, hO⟩ := X₁.ctorThrowS hexec htr (own := own) (cls := cls) (names := names) (ic := ic) hown' hcls hnames h (fun x hx => nomatch hx) hfX hkX hcellA (by rw [hhp, hT]; exact Nat.le_refl _) (msg := .ref sa) rfl
    (g := { method := m, pc := pc + 7, locals := ls, stack := .ref sa :: .ref T.heap.size :: .ref T.heap.size :: rest, locked := none }) rfl hsize rfl rfl (rest := rest) rfl
    (by rw [hb]; exact d7) (by rw [hb]; exact d10) hout hRframes (by simp only [List.map_cons, List.sum_cons, hcat]; omega) hlocks
  obtain ⟨f1, f2⟩ := vx_frame hsame
  rw [hhp] at f1 f2
  have hWs : s.WarmedH U.vm := State.WarmedH.trans hW0 hW
  have hcl : s.vm.findClass cls = some ce.cls := by
    have h9 := hO.cls
    rw [hvm] at h9
    exact h9
  have hall : s.sameButNew ({ U with vm := s.vm } : State) locs mc ms := by
    subst hA
    obtain ⟨e1, e2⟩ := hsame
    rw [State.setFrames_setFrames] at e1
    have h2 : (T.setVm s.vm).sameButNew ({ U with vm := s.vm } : State) [] (0 + 1) (0 + 6) := ⟨e1, e2⟩
    have h3 := X.same.trans h2
    rw [List.append_nil] at h3
    exact h3.mono hc hs
  refine ⟨U, ?_, .threw T.heap.size, hrun, hend, Or.inr ⟨T.heap.size, rfl, cls, ce, locs, hx U hWs.alike f1 (fun q hq => f2 q hq (fun z hz => nomatch hz)), hce, hO.vm, hcl, hWs, hall, hf⟩⟩
  refine st1 _ ?_
  show Steps p.tables e below (T1.setTop { method := m, pc := pc + 3, locals := ls, stack := .ref T.heap.size :: rest, locked := none }) _
  jvm_step X₁.here [X₁.here.top, hexec, d3', Value.category]
  exact X₁.ldcStringW hexec (own := own) (text := text) (index := is) (a := sa) hown' hstr'.1 hstr'.2
    (g := { method := m, pc := pc + 4, locals := ls, stack := .ref T.heap.size :: .ref T.heap.size :: rest, locked := none }) rfl d4' _ hsteps
end Ends
section Bodies
variable {l : Launch}
theorem vx_ofW {y : MethodName} {ws ws' : List Cond} {rm : Room} {Pc : Array Value → State → Prop} {Qc : Array Value → State → Outcome → State → Prop} {XC : String → State → State → Prop} {mc ms : Nat} {free : Addr → Prop} {cc : ByteArray} {maxL : Nat} {ret : Option FieldType}
    (hy : plainName y.cls = true) (hw : ws = Cond.code y cc maxL ret :: ws')
    (body : ∀ p e s m args below meth c s₁, BodyLoose p l y (headSpec ws rm) cc maxL ret e s m args below meth c s₁ → c.maxLocals = maxL → (∀ x ∈ c.exceptionTable.toList, False) → Pc args s →
      W p l e (headSpec ws rm).room s m args below meth c s.heap [] 0 0 (vx_MQ below Qc XC args s mc ms free) (entryFrame m args maxL)) : vx_Met l y ws rm Pc Qc XC mc ms free := by
  refine MetFree.of_bodyS (code := cc) (maxLocals := maxL) (ret := ret) hy ?_ ?_
  · intro args s m h hn
    obtain ⟨meth, c, h1, h2, h3, h4, h5, h6, -, -⟩ := Cond.code_spec hn (atoms_spec (ws := ws) h _ (by rw [hw]; exact List.mem_cons_self))
    exact ⟨meth, c, h1, h2, h3, h4, h5, h6⟩
  · intro p e s m args below meth c s₁ B hml hP _
    have hh0 : s₁.heap = s.heap := by rw [B.state]; rfl
    have ht : ∀ x ∈ c.exceptionTable.toList, False := by
      obtain ⟨meth9, c9, h1, h2, -, -, -, -, h7, -⟩ := Cond.code_spec B.named (atoms_spec (ws := ws) B.pre _ (by rw [hw]; exact List.mem_cons_self))
      cases Option.some.inj (h1.symm.trans B.method)
      cases Option.some.inj (h2.symm.trans (Stand.of_body B).code)
      intro x hx
      rw [Array.isEmpty_iff.mp h7] at hx
      cases hx
    obtain ⟨t, a1, o, b1, b2, b3⟩ := body p e s m args below meth c s₁ B hml ht hP s₁ hh0 (Stand.of_body B)
    exact ⟨t, o, a1, b1, b2, b3⟩
/-- the table of a body with handlers -/
theorem vx_table {p : Program} {x y : MethodName} {S : Spec} {cc bytes : ByteArray} {maxL maxL' : Nat} {ret ret' : Option FieldType} {e : Env} {s s₁ : State} {m : MethodId} {args : Array Value} {below : List Frame} {meth : Method} {c : Code} {hh : List (Nat × Nat × Nat × Nat)}
    (B : BodyLoose p l y S cc maxL ret e s m args below meth c s₁) (h : (Cond.codeWith y bytes maxL' ret' hh).before args s = true) : c.exceptionTable.toList = tableOf hh := by
  obtain ⟨m9, meth9, c9, hn9, h1, h2, -, -, h6, -⟩ := Cond.codeWith_spec h
  cases Option.some.inj (hn9.symm.trans B.named)
  cases Option.some.inj (h1.symm.trans B.method)
  cases Option.some.inj (h2.symm.trans (Stand.of_body B).code)
  rw [← h6, table_eq]
end Bodies
end VXA
/-! ===== END ===== -/
/-! ===== BEGIN a static call of a method with an exception table ===== -/
section VXS
variable {p : Program} {l : Launch} {e : Env} {R : Room} {s : State} {m : MethodId} {args : Array Value} {below : List Frame} {meth : Method} {c : Code} {T : State} {H : Heap} {locs : List Loc} {cells slots : Nat}
abbrev vx_CSW (R : Room) (s : State) (args : Array Value) (own : String) (index : Nat) (y : MethodName) (bytes : ByteArray) (maxL : Nat) (ret : Option FieldType) (hh : List (Nat × Nat × Nat × Nat)) (ws : List Cond) (rm : Room) (mc ms n : Nat) : Prop :=
  (rm.cells = mc ∧ rm.slots = ms ∧ rm.frames + 1 ≤ R.frames ∧ 8 + (maxL + 11) + rm.locals ≤ R.locals ∧ (∀ w ∈ ws, ∀ (a' : Array Value) (U : State), s.WarmedH U.vm → w.before a' U = true) ∧ Cond.codeWith y bytes maxL ret hh ∈ ws) ∧
  (Cond.codeWith y bytes maxL ret hh).before args s = true ∧ (Cond.initialized y.cls).before args s = true ∧ (y.cls ≠ "java/lang/invoke/MethodHandle" ∧ y.cls ≠ "java/lang/invoke/VarHandle") ∧
  (∀ sig, parseMethodDescriptor y.desc = some sig → n = sig.parameters.length) ∧ (Cond.methodLink own index y).before args s = true ∧ (Cond.static y).before args s = true
theorem vx_cwSW {own : String} {index maxL mc ms : Nat} {y : MethodName} {bytes : ByteArray} {ret : Option FieldType} {hh : List (Nat × Nat × Nat × Nat)} {Ts ws ws' : List Cond} {rm : Room} (n : Nat) (ht : ∀ w ∈ Ts, w.before args s = true) (hT : GoodIn Ts (va_wsS own index y ws)) (hw : ws = Cond.codeWith y bytes maxL ret hh :: ws') (hrc : rm.cells = mc) (hrs : rm.slots = ms)
    (hd : y.cls ≠ "java/lang/invoke/MethodHandle" ∧ y.cls ≠ "java/lang/invoke/VarHandle" ∧ (parseMethodDescriptor y.desc).map (fun d => d.parameters.length) = some n) (hR : rm.frames + 1 ≤ R.frames ∧ 8 + (maxL + 11) + rm.locals ≤ R.locals) :
    vx_CSW R s args own index y bytes maxL ret hh ws rm mc ms n := by
  have ok : ∀ w ∈ va_wsS own index y ws, w.before args s = true := fun w h => ht w (hT w h).1
  have hG : GoodIn Ts ws := fun w h => hT w (by unfold va_wsS; exact List.mem_append_right _ h)
  have hc : Cond.codeWith y bytes maxL ret hh ∈ ws := by rw [hw]; exact List.mem_cons_self
  refine ⟨⟨hrc, hrs, hR.1, hR.2, pay_in ht hG, hc⟩, ht _ (hG _ hc).1, ok _ (by simp [va_wsS]), ⟨hd.1, hd.2.1⟩, fun sig h => ?_, ok _ (by simp [va_wsS]), ok _ (by simp [va_wsS])⟩
  have h2 := hd.2.2
  rw [h] at h2
  exact (Option.some.inj h2).symm
theorem vx_callSW (X : Stand p l e R s m args below meth c T locs cells slots) (hexec : p.tables.exec = Jvm.exec) {own : String} {index : Nat} {y : MethodName} {bytes : ByteArray} {maxL : Nat} {ret : Option FieldType} {hh : List (Nat × Nat × Nat × Nat)}
    (hown : s.vm.findClass own = some m.cls) (hlink : (Cond.methodLink own index y).before args s = true) (hstat : (Cond.static y).before args s = true) (hinit : (Cond.initialized y.cls).before args s = true)
    (hcode : (Cond.codeWith y bytes maxL ret hh).before args s = true) (hy : y.cls ≠ "java/lang/invoke/MethodHandle" ∧ y.cls ≠ "java/lang/invoke/VarHandle")
    {W9 : Nat} {Pre : Pt → Array Value → Prop} {Post : Pt → Array Value → Option Value → Pt → Prop} (hK : Back l R p e below s args y 3 W9 Pre Post)
    {g : JFrame} (hg : g.method = m) (hsize : g.locals.size = c.maxLocals) {argsL rest : List Value} (hlen : ∀ sig, parseMethodDescriptor y.desc = some sig → argsL.length = sig.parameters.length)
    (hstack : g.stack = argsL.reverse ++ rest) (hW : 2 * g.monitorRoom + (rest.map fun v => v.category).sum ≤ W9) (hdg : decode c.code g.pc = .ok (.invokestatic index, 3))
    (hpre : ∀ vm₁, s.WarmedH vm₁ → Pre ⟨T.setVm vm₁, locs, cells, slots⟩ argsL.toArray) :
    ∃ (v : Option Value) (vm₁ : Vm) (B : Pt), s.WarmedH vm₁ ∧ Stand p l e R s m args below meth c B.U B.locs B.cells B.slots ∧ Post ⟨T.setVm vm₁, locs, cells, slots⟩ argsL.toArray v B ∧
      ∀ target, Steps p.tables e below (B.U.setTop { g with pc := g.pc + 3, stack := v.toList ++ rest }) target → Steps p.tables e below (T.setTop g) target := by
  obtain ⟨mk, methM, cM, hnamed, hmethM, -, -, -, -, -, -, hsigM⟩ := Cond.codeWith_spec hcode
  have hstatic : methM.isStatic = true := Cond.static_spec hnamed hmethM hstat
  obtain ⟨kP, hkP, -⟩ := className_of_methodNamed hnamed
  have hinitP : kP.init = .initialized := Cond.initialized_spec (findClass_of_methodNamed hnamed) hkP hinit
  obtain ⟨vm₁, X₁, hstep₁⟩ := X.invokestatic hexec hown hlink hnamed hmethM hstatic hkP hinitP hy (g := g) hg (argsL := argsL) (rest := rest) (hlen _ hsigM) hstack hdg
  obtain ⟨v, B, X', hpost, hsteps⟩ := hK m meth c ⟨T.setVm vm₁, locs, cells, slots⟩ { g with stack := rest } (.invokestatic index) mk argsL.toArray X₁ hg hsize hdg hW (X₁.named hnamed) (hpre vm₁ X₁.warmed)
  exact ⟨v, vm₁, B, X₁.warmed, X', hpost, fun target h => hstep₁ _ fun acts => by rw [doInvoke_state]; exact hsteps.trans h⟩
theorem vx_runSW {y : MethodName} {bytes cc : ByteArray} {maxL nL mc ms n index : Nat} {ret : Option FieldType} {hh : List (Nat × Nat × Nat × Nat)} {ws : List Cond} {rm : Room} {Pc : Array Value → State → Prop} {Qc : Array Value → State → Outcome → State → Prop} {free : Addr → Prop} {Ts : List Cond} {own : String} {As rest : List Value} {g : JFrame}
    (S : CallFix p m c cc nL s args Ts own) (hM : Met l y ws rm Pc Qc mc ms free) (cw : vx_CSW R s args own index y bytes maxL ret hh ws rm mc ms n) (hp : PreS s H Pc As)
    (hg : g.method = m) (hn : As.length = n) (hsize : g.locals.size = nL) (hstack : g.stack = As.reverse ++ rest) (hW : 2 * g.monitorRoom + (rest.map fun v => v.category).sum ≤ 8) (hdg : decode cc g.pc = .ok (.invokestatic index, 3)) (hf : cells + mc ≤ R.cells ∧ slots + ms ≤ R.slots) :
    va_Run p l e R s m args below meth c H locs cells slots mc ms g rest (Qc As.toArray) (free) := by
  obtain ⟨⟨hrc, hrs, hfr, hlo, hws, hcw⟩, hcode, hini, hy, hlen, hl, hstt⟩ := cw
  have hK : Back l R p e below s args y 3 8 (PreOf R mc ms Pc) (PostOf Qc mc ms free) := va_backW (hh := hh) (bytes := bytes) (maxL := maxL) (ret := ret) hM hp.1 hrc hrs hfr hlo hws hcw (fun a' U hW => word_at hW (Or.inl (by first | rfl | simp [Cond.onTables, Cond.keeps, Cond.steady])) hini)
  obtain ⟨hx, hb, hml, ho, -⟩ := S
  intro T hT X
  obtain ⟨v, vm₁, ⟨U', l2, c2, s2⟩, hW₁, X', ⟨g', mk, t, L, e1, e2, hq, h1, hL, h2, h3⟩, st⟩ := vx_callSW X hx (hh := hh) (bytes := bytes) (maxL := maxL) (ret := ret) ho hl hstt hini hcode hy hK hg (hsize.trans hml.symm) (argsL := As) (rest := rest) (fun sig h => hn.trans (hlen sig h)) hstack hW (by rw [hb]; exact hdg)
    (fun vm₁ hW₁ => ⟨hf.1, hf.2, hp.2 (T.setVm vm₁) hT hW₁⟩)
  dsimp only [Pt.U, Pt.locs, Pt.cells, Pt.slots] at X' e1 e2 h1 h2 h3 st
  subst h1; subst h2; subst h3
  exact ⟨v, (T.setVm vm₁).calling g' mk As.toArray, t, U', L, hT, X', hL, e1, e2, hq, st⟩
/-- not caught here, past rows that name other classes: it goes on to the caller -/
theorem vx_outP {p : Program} {l : Launch} {e : Env} {R : Room} {s : State} {m : MethodId} {args : Array Value} {below : List Frame} {meth : Method} {c : Code} {H : Heap} {locs : List Loc} {cells slots : Nat} {free : Addr → Prop} {ls : Array Slot} {rest : List Value} {Qc : Array Value → State → Outcome → State → Prop} {XC : String → State → State → Prop}
    {pc : Nat} {own E : String} {ce : Cell} {q : Addr} {mc ms : Nat} (hown : s.vm.findClass own = some m.cls) (hlocks : meth.locks = false)
    (hpass : ∀ z ∈ c.exceptionTable.toList, covers z pc = false ∨ (z.catchType ≠ 0 ∧ ∃ nm : String, (Cond.classLink own z.catchType nm).before args s = true ∧ va_Nc E nm s)) (hcell : H[q]? = some ce) (hv : ce.vm = .none) (hcl : s.vm.findClass E = some ce.cls)
    (hx : ∀ t : State, t.heap = H → s.vm.Alike t.vm → XC E s t) (hf : ∀ z ∈ locs, free z.base) (hc : cells ≤ mc) (hs : slots ≤ ms) :
    vx_W p l e R s m args below meth c H locs cells slots (vx_MQ below Qc XC args s mc ms free) (F0 m pc ls rest) q := by
  intro T hT X
  have hpl : e.platform.magicAccessors = ({} : Platform).magicAccessors := by rw [X.admits.platform]
  obtain ⟨vm', hW', X', st⟩ := X.outThrough hlocks q (g := F0 m pc ls rest) rfl rfl rfl (cell := ce) (by rw [hT]; exact hcell) (by rw [hv]; rfl)
    (by obtain ⟨k9, h9, -⟩ := Vm.findClass_spec hcl; exact ⟨k9, h9⟩) (fun z hz => by
      rcases hpass z hz with h | ⟨hz0, nm, hl1, hn1⟩
      · exact Or.inl h
      · obtain ⟨c6, hc6, hcl6⟩ := Cond.classLink_spec hown hl1 e.platform hpl
        obtain ⟨a8, b8, h1, h2, h3⟩ := hn1
        cases Option.some.inj (h1.symm.trans hcl)
        cases Option.some.inj (h2.symm.trans hc6)
        exact Or.inr ⟨hz0, _, hcl6, h3⟩)
  obtain ⟨g₀, hfr⟩ := X'.frames_eq
  have hcell9 : ((T.setVm vm').setFrames (.throwing q :: below)).heap[q]? = some ce := by
    show T.heap[q]? = some ce
    rw [hT]; exact hcell
  have hend : Ended ((T.setVm vm').setFrames (.throwing q :: below)) below (.threw q) := State.frames_setFrames _ (State.cur_lt_of_frames hfr)
  refine ⟨(T.setVm vm').setFrames (.throwing q :: below), ?_, .threw q, X'.here.running, hend, Or.inr ⟨q, rfl, E, ce, locs, hx _ hT (X'.ends _).1.alike, hcell9, hv, hcl, (X'.ends _).1, (X'.ends _).2.mono hc hs, hf⟩⟩
  rw [X.pushThrowing_eq]
  exact st
/-- a thing of a world lies in the heap -/
theorem vx_lt {D : va_G} {cl : List vw_C} {ws : va_W} {H1 : Heap} (h : va_P D cl ws H1) {k : Nat} {q : Nat × va_E} (hk : ws[k]? = some q) : q.1 < H1.size := (h k q hk).lt
end VXS
/-! ===== END ===== -/
/-! ===== BEGIN methods with a table of their own: called by a name, returning or throwing ===== -/
section VXH
/-! vx_backW, vx_callVX, vx_callSX, vx_callVW, vx_runVW, vx_runVX, vx_runSX, vx_ofWH follow the same proofs as their sisters above (Free/Laws.lean, Shelf42/LK1.lean); vx_outP calls Shelf42/NT130.lean (outThrough). -/
section
variable {l : Launch} {R : Room} {p : Program} {e : Env} {below : List Frame} {s : State} {sargs : Array Value} {y : MethodName} {len W9 : Nat}
theorem vx_backW {ws : List Cond} {rm : Room} {Pc : Array Value → State → Prop} {Qc : Array Value → State → Outcome → State → Prop} {XC : String → State → State → Prop} {mc ms : Nat} {free : Addr → Prop} {bytes : ByteArray} {maxL : Nat} {ret : Option FieldType} {hh : List (Nat × Nat × Nat × Nat)}
    (hM : vx_Met l y ws rm Pc Qc XC mc ms free) (hblind : FrameBlind Pc) (hrc : rm.cells = mc) (hrs : rm.slots = ms)
    (hframes : rm.frames + 1 ≤ R.frames) (hlocals : W9 + (maxL + 11) + rm.locals ≤ R.locals)
    (hws : ∀ w ∈ ws, ∀ a' U, s.WarmedH U.vm → w.before a' U = true) (hcode : Cond.codeWith y bytes maxL ret hh ∈ ws) (hinit : ∀ a' U, s.WarmedH U.vm → (Cond.initialized y.cls).before a' U = true) :
    vx_Back l R p e below s sargs y len W9 (PreOf R mc ms Pc) (PostOf Qc mc ms free) (vx_Post XC mc ms free) := by
  intro m meth c A g ig mk a X hg hsize hdg hW hn hp
  have h1 : (headSpec ws rm).pre.before a A.U = true := atoms_intro fun w hw => hws w hw _ _ X.warmed
  have h2 : (Cond.codeWith y bytes maxL ret hh).before a A.U = true := hws _ hcode _ _ X.warmed
  have h3 : (Cond.initialized y.cls).before a A.U = true := hinit _ _ X.warmed
  have h4 : A.cells + (headSpec ws rm).room.cells ≤ R.cells := by rw [show (headSpec ws rm).room.cells = mc from hrc]; exact hp.1
  have h5 : A.slots + (headSpec ws rm).room.slots ≤ R.slots := by rw [show (headSpec ws rm).room.slots = ms from hrs]; exact hp.2.1
  have hPc : Pc a (A.U.calling g mk a) := hblind _ _ _ _ hp.2.2
  obtain ⟨U, Ls, c0, s0⟩ := A
  dsimp only [Pt.U, Pt.locs, Pt.cells, Pt.slots] at h1 h2 h3 h4 h5 X hn hPc ⊢
  obtain ⟨m9, methY, cY, hn9, hmY, hcY, -, hlY, -⟩ := Cond.codeWith_spec h2
  cases Option.some.inj (hn9.symm.trans hn)
  obtain ⟨kY, hkY, -⟩ := className_of_methodNamed hn
  have hinitY : kY.init = .initialized := Cond.initialized_spec (findClass_of_methodNamed hn) hkY h3
  have h : At U g.method c below := by rw [hg]; exact X.here
  have hlocals9 : W9 + (maxL + 11) + (headSpec ws rm).room.locals ≤ R.locals := hlocals
  have happ : (headSpec ws rm).appliesLoose y e.platform (U.calling g mk a) = true :=
    Spec.appliesLoose_calling (g := g) h hdg hn hkY hinitY
      (X.room_calling (g := g) (R' := (headSpec ws rm).room) hsize hmY hcY hframes (by rw [hlY]; omega) h4 h5) h1
  obtain ⟨mid, hmid⟩ := h.above
  have hfr : (U.setTop g).frames = (.java g :: mid) ++ below := by rw [State.frames_setTop' g h.top, hmid]; rfl
  obtain ⟨o, s₂, hsteps, -, hend, hq⟩ := Steps.callFree hM p X.admits X.cas X.clock (acts := []) hfr happ hPc trivial
  have hq' : vx_Q Qc XC mc ms free a (U.calling g mk a) o s₂ := hq
  rw [State.frames_setTop' g h.top] at hend
  obtain ⟨g₀, hg0⟩ := Option.isSome_iff_exists.mp h.top
  obtain ⟨r, hr⟩ := State.topJava?_eq_some.mp hg0
  have hr' : (({ U with heap := s₂.heap, slotsUsed := s₂.slotsUsed } : State).setVm s₂.vm).frames = .java g₀ :: r := hr
  rcases hq' with ⟨hqc, L, hfe, hL⟩ | ⟨q, rfl, E, ce, L, hx, hce, hcv, hcl, hW₂, hsm, hL⟩
  · obtain ⟨⟨v, rfl⟩, hW₂, e2, q2, q3, q4, q5, q6⟩ := id hfe
    have e3 : s₂ = ({ (U.calling g mk a).setFrames s₂.frames with heap := s₂.heap, slotsUsed := s₂.slotsUsed } : State).setVm s₂.vm := by
      have : s₂ = ({ s₂ with vm := (U.calling g mk a).vm } : State).setVm s₂.vm := rfl
      rw [e2] at this
      exact this
    obtain ⟨c₂, i₂, len₂, hc₂, hd₂, hf₂⟩ := hend
    have hW' : U.WarmedH s₂.vm := hW₂
    have hcc : c₂ = c := by
      have h1 : s₂.code? g.method = U.code? g.method := by
        rw [State.code?_eq, State.code?_eq, hW'.alike.method?]
      exact Option.some.inj (hc₂.symm.trans (h1.trans h.code))
    subst hcc
    have hlen : len₂ = len := by rw [hdg] at hd₂; cases hd₂; rfl
    subst hlen
    have hs₂ : s₂ = (({ U with heap := s₂.heap, slotsUsed := s₂.slotsUsed } : State).setVm s₂.vm).setTop { g with pc := g.pc + len₂, stack := v.toList ++ g.stack } := by
      refine e3.trans ?_
      rw [hf₂, State.calling_eq h.top, State.setFrames_setFrames, State.setTop_of_frames _ hr', hr]
      rfl
    have hsame : U.sameButNew ({ U with heap := s₂.heap, slotsUsed := s₂.slotsUsed } : State) L mc ms := by
      refine ⟨?_, q2, q3, q4, q5, q6⟩
      obtain ⟨t, ht, -⟩ := State.frames_cons hr
      show ({ U with heap := s₂.heap, slotsUsed := s₂.slotsUsed } : State) = { U.setFrames U.frames with heap := s₂.heap, slotsUsed := s₂.slotsUsed }
      rw [State.setFrames_self ht]
    subst hg
    refine Or.inl ⟨v, ⟨(({ U with heap := s₂.heap, slotsUsed := s₂.slotsUsed } : State).setVm s₂.vm), Ls ++ L, c0 + mc, s0 + ms⟩,
      ⟨X.admits, X.cas, X.clock, X.frames, X.room, X.hears, X.method, X.code, (X.here.setHeapUsed s₂.heap s₂.slotsUsed).setVm hW'.alike, X.tail, State.WarmedH.trans X.warmed hW', X.limits, X.bytes, X.same.trans (hsame.setVm s.vm)⟩,
      ⟨g, mk, s₂, L, rfl, rfl, hqc, rfl, hL, rfl, rfl⟩, ?_⟩
    show Steps p.tables e below _ ((({ U with heap := s₂.heap, slotsUsed := s₂.slotsUsed } : State).setVm s₂.vm).setTop { g with pc := g.pc + len₂, stack := v.toList ++ g.stack })
    rw [← hs₂]
    exact hsteps
  · obtain ⟨e2, q2, q3, q4, q5, q6⟩ := id hsm
    have e3 : s₂ = ({ (U.calling g mk a).setFrames s₂.frames with heap := s₂.heap, slotsUsed := s₂.slotsUsed } : State).setVm s₂.vm := by
      have : s₂ = ({ s₂ with vm := (U.calling g mk a).vm } : State).setVm s₂.vm := rfl
      rw [e2] at this
      exact this
    have hf₂ : s₂.frames = .throwing q :: .java g :: U.frames.tail := hend
    have hW' : U.WarmedH s₂.vm := hW₂
    have hs₂ : s₂ = ((({ U with heap := s₂.heap, slotsUsed := s₂.slotsUsed } : State).setVm s₂.vm).setTop g).pushFrame (.throwing q) := by
      refine e3.trans ?_
      rw [hf₂, State.calling_eq h.top, State.setFrames_setFrames, State.pushFrame, State.frames_setTop _ hr', State.setTop_of_frames _ hr', State.setFrames_setFrames, hr]
      rfl
    have hsame : U.sameButNew ({ U with heap := s₂.heap, slotsUsed := s₂.slotsUsed } : State) L mc ms := by
      refine ⟨?_, q2, q3, q4, q5, q6⟩
      obtain ⟨t, ht, -⟩ := State.frames_cons hr
      show ({ U with heap := s₂.heap, slotsUsed := s₂.slotsUsed } : State) = { U.setFrames U.frames with heap := s₂.heap, slotsUsed := s₂.slotsUsed }
      rw [State.setFrames_self ht]
    subst hg
    refine Or.inr ⟨q, ⟨(({ U with heap := s₂.heap, slotsUsed := s₂.slotsUsed } : State).setVm s₂.vm), Ls ++ L, c0 + mc, s0 + ms⟩,
      ⟨X.admits, X.cas, X.clock, X.frames, X.room, X.hears, X.method, X.code, (X.here.setHeapUsed s₂.heap s₂.slotsUsed).setVm hW'.alike, X.tail, State.WarmedH.trans X.warmed hW', X.limits, X.bytes, X.same.trans (hsame.setVm s.vm)⟩,
      ⟨g, mk, s₂, L, E, ce, rfl, rfl, hx, hce, hcv, hcl, rfl, hL, rfl, rfl⟩, ?_⟩
    show Steps p.tables e below _ (((({ U with heap := s₂.heap, slotsUsed := s₂.slotsUsed } : State).setVm s₂.vm).setTop g).pushFrame (.throwing q))
    rw [← hs₂]
    exact hsteps
end
variable {p : Program} {l : Launch} {e : Env} {R : Room} {s : State} {m : MethodId} {args : Array Value} {below : List Frame} {meth : Method} {c : Code} {T : State} {H : Heap} {locs : List Loc} {cells slots : Nat}
theorem vx_callVX (X : Stand p l e R s m args below meth c T locs cells slots) (hexec : p.tables.exec = Jvm.exec) {own C : String} {index : Nat} {y : MethodName} {bytes : ByteArray} {maxL : Nat} {ret : Option FieldType} {hh : List (Nat × Nat × Nat × Nat)}
    (hown : s.vm.findClass own = some m.cls) (hlink : (Cond.methodLink own index y).before args s = true) (hinst : (Cond.instanceMethod y).before args s = true) (hsel : (Cond.selects C y y).before args s = true)
    (hcode : (Cond.codeWith y bytes maxL ret hh).before args s = true) (hy : y.cls ≠ "java/lang/invoke/MethodHandle" ∧ y.cls ≠ "java/lang/invoke/VarHandle")
    {W9 : Nat} {Pre : Pt → Array Value → Prop} {Post : Pt → Array Value → Option Value → Pt → Prop} {PostX : Pt → Array Value → Addr → Pt → Prop} (hK : vx_Back l R p e below s args y 3 W9 Pre Post PostX)
    {b : Addr} {cellB : Cell} (hcell : T.heap[b]? = some cellB) (hobj : cellB.vm.isStatics = false) (hcls : s.vm.findClass C = some cellB.cls)
    {g : JFrame} (hg : g.method = m) (hsize : g.locals.size = c.maxLocals) {argsL rest : List Value} (hlen : ∀ sig, parseMethodDescriptor y.desc = some sig → argsL.length = sig.parameters.length)
    (hstack : g.stack = argsL.reverse ++ .ref b :: rest) (hW : 2 * g.monitorRoom + (rest.map fun v => v.category).sum ≤ W9) (hdg : decode c.code g.pc = .ok (.invokevirtual index, 3))
    (hpre : ∀ vm₁, s.WarmedH vm₁ → Pre ⟨T.setVm vm₁, locs, cells, slots⟩ (Value.ref b :: argsL).toArray) :
    (∃ (v : Option Value) (vm₁ : Vm) (B : Pt), s.WarmedH vm₁ ∧ Stand p l e R s m args below meth c B.U B.locs B.cells B.slots ∧ Post ⟨T.setVm vm₁, locs, cells, slots⟩ (Value.ref b :: argsL).toArray v B ∧
      ∀ target, Steps p.tables e below (B.U.setTop { g with pc := g.pc + 3, stack := v.toList ++ rest }) target → Steps p.tables e below (T.setTop g) target) ∨
    (∃ (q : Addr) (vm₁ : Vm) (B : Pt), s.WarmedH vm₁ ∧ Stand p l e R s m args below meth c B.U B.locs B.cells B.slots ∧ PostX ⟨T.setVm vm₁, locs, cells, slots⟩ (Value.ref b :: argsL).toArray q B ∧
      Steps p.tables e below (T.setTop g) ((B.U.setTop { g with stack := rest }).pushFrame (.throwing q))) := by
  obtain ⟨mk, methM, hnamed, hmethM, hstM, habM⟩ := Cond.instanceMethod_spec hinst
  obtain ⟨m8, methM', cM, hn8, hmethM', -, -, -, -, -, -, hsigM⟩ := Cond.codeWith_spec hcode
  cases Option.some.inj (hn8.symm.trans hnamed)
  cases hmethM.symm.trans hmethM'
  obtain ⟨c2, r2, m2, q1, q2, q3, q4, kP, hkP, hkPi⟩ := Cond.selects_spec hsel
  cases hcls.symm.trans q1
  cases (State.methodFound?_of_named hnamed hy).symm.trans q2
  cases hnamed.symm.trans q3
  have hselP : selectMethod e.platform s.vm cellB.cls mk = .method mk := by rw [Launch.admits_selectMethod X.admits]; exact q4
  obtain ⟨vm₁, X₁, hstep₁⟩ := X.invokevirtual hexec hown hlink hnamed hmethM hstM hkP hkPi hy (a := b) (cell := cellB) hcell
    (fun z h => by rw [h] at hobj; cases hobj) hselP hmethM habM hkP hkPi (g := g) hg (argsL := argsL) (rest := rest) (hlen _ hsigM) hstack hdg
  rcases hK m meth c ⟨T.setVm vm₁, locs, cells, slots⟩ { g with stack := rest } (.invokevirtual index) mk (Value.ref b :: argsL).toArray X₁ hg hsize hdg hW (X₁.named hnamed) (hpre vm₁ X₁.warmed) with ⟨v, B, X', hpost, hsteps⟩ | ⟨q, B, X', hpost, hsteps⟩
  · exact Or.inl ⟨v, vm₁, B, X₁.warmed, X', hpost, fun target h => hstep₁ _ fun acts => by rw [doInvoke_state]; exact hsteps.trans h⟩
  · exact Or.inr ⟨q, vm₁, B, X₁.warmed, X', hpost, hstep₁ _ fun acts => by rw [doInvoke_state]; exact hsteps⟩
theorem vx_callSX (X : Stand p l e R s m args below meth c T locs cells slots) (hexec : p.tables.exec = Jvm.exec) {own : String} {index : Nat} {y : MethodName} {bytes : ByteArray} {maxL : Nat} {ret : Option FieldType} {hh : List (Nat × Nat × Nat × Nat)}
    (hown : s.vm.findClass own = some m.cls) (hlink : (Cond.methodLink own index y).before args s = true) (hstat : (Cond.static y).before args s = true) (hinit : (Cond.initialized y.cls).before args s = true)
    (hcode : (Cond.codeWith y bytes maxL ret hh).before args s = true) (hy : y.cls ≠ "java/lang/invoke/MethodHandle" ∧ y.cls ≠ "java/lang/invoke/VarHandle")
    {W9 : Nat} {Pre : Pt → Array Value → Prop} {Post : Pt → Array Value → Option Value → Pt → Prop} {PostX : Pt → Array Value → Addr → Pt → Prop} (hK : vx_Back l R p e below s args y 3 W9 Pre Post PostX)
    {g : JFrame} (hg : g.method = m) (hsize : g.locals.size = c.maxLocals) {argsL rest : List Value} (hlen : ∀ sig, parseMethodDescriptor y.desc = some sig → argsL.length = sig.parameters.length)
    (hstack : g.stack = argsL.reverse ++ rest) (hW : 2 * g.monitorRoom + (rest.map fun v => v.category).sum ≤ W9) (hdg : decode c.code g.pc = .ok (.invokestatic index, 3))
    (hpre : ∀ vm₁, s.WarmedH vm₁ → Pre ⟨T.setVm vm₁, locs, cells, slots⟩ argsL.toArray) :
    (∃ (v : Option Value) (vm₁ : Vm) (B : Pt), s.WarmedH vm₁ ∧ Stand p l e R s m args below meth c B.U B.locs B.cells B.slots ∧ Post ⟨T.setVm vm₁, locs, cells, slots⟩ argsL.toArray v B ∧
      ∀ target, Steps p.tables e below (B.U.setTop { g with pc := g.pc + 3, stack := v.toList ++ rest }) target → Steps p.tables e below (T.setTop g) target) ∨
    (∃ (q : Addr) (vm₁ : Vm) (B : Pt), s.WarmedH vm₁ ∧ Stand p l e R s m args below meth c B.U B.locs B.cells B.slots ∧ PostX ⟨T.setVm vm₁, locs, cells, slots⟩ argsL.toArray q B ∧
      Steps p.tables e below (T.setTop g) ((B.U.setTop { g with stack := rest }).pushFrame (.throwing q))) := by
  obtain ⟨mk, methM, cM, hnamed, hmethM, -, -, -, -, -, -, hsigM⟩ := Cond.codeWith_spec hcode
  have hstatic : methM.isStatic = true := Cond.static_spec hnamed hmethM hstat
  obtain ⟨kP, hkP, -⟩ := className_of_methodNamed hnamed
  have hinitP : kP.init = .initialized := Cond.initialized_spec (findClass_of_methodNamed hnamed) hkP hinit
  obtain ⟨vm₁, X₁, hstep₁⟩ := X.invokestatic hexec hown hlink hnamed hmethM hstatic hkP hinitP hy (g := g) hg (argsL := argsL) (rest := rest) (hlen _ hsigM) hstack hdg
  rcases hK m meth c ⟨T.setVm vm₁, locs, cells, slots⟩ { g with stack := rest } (.invokestatic index) mk argsL.toArray X₁ hg hsize hdg hW (X₁.named hnamed) (hpre vm₁ X₁.warmed) with ⟨v, B, X', hpost, hsteps⟩ | ⟨q, B, X', hpost, hsteps⟩
  · exact Or.inl ⟨v, vm₁, B, X₁.warmed, X', hpost, fun target h => hstep₁ _ fun acts => by rw [doInvoke_state]; exact hsteps.trans h⟩
  · exact Or.inr ⟨q, vm₁, B, X₁.warmed, X', hpost, hstep₁ _ fun acts => by rw [doInvoke_state]; exact hsteps⟩
theorem vx_callVW (X : Stand p l e R s m args below meth c T locs cells slots) (hexec : p.tables.exec = Jvm.exec) {own C : String} {index : Nat} {y : MethodName} {bytes : ByteArray} {maxL : Nat} {ret : Option FieldType} {hh : List (Nat × Nat × Nat × Nat)}
    (hown : s.vm.findClass own = some m.cls) (hlink : (Cond.methodLink own index y).before args s = true) (hinst : (Cond.instanceMethod y).before args s = true) (hsel : (Cond.selects C y y).before args s = true)
    (hcode : (Cond.codeWith y bytes maxL ret hh).before args s = true) (hy : y.cls ≠ "java/lang/invoke/MethodHandle" ∧ y.cls ≠ "java/lang/invoke/VarHandle")
    {W9 : Nat} {Pre : Pt → Array Value → Prop} {Post : Pt → Array Value → Option Value → Pt → Prop} (hK : Back l R p e below s args y 3 W9 Pre Post)
    {b : Addr} {cellB : Cell} (hcell : T.heap[b]? = some cellB) (hobj : cellB.vm.isStatics = false) (hcls : s.vm.findClass C = some cellB.cls)
    {g : JFrame} (hg : g.method = m) (hsize : g.locals.size = c.maxLocals) {argsL rest : List Value} (hlen : ∀ sig, parseMethodDescriptor y.desc = some sig → argsL.length = sig.parameters.length)
    (hstack : g.stack = argsL.reverse ++ .ref b :: rest) (hW : 2 * g.monitorRoom + (rest.map fun v => v.category).sum ≤ W9) (hdg : decode c.code g.pc = .ok (.invokevirtual index, 3))
    (hpre : ∀ vm₁, s.WarmedH vm₁ → Pre ⟨T.setVm vm₁, locs, cells, slots⟩ (Value.ref b :: argsL).toArray) :
    ∃ (v : Option Value) (vm₁ : Vm) (B : Pt), s.WarmedH vm₁ ∧ Stand p l e R s m args below meth c B.U B.locs B.cells B.slots ∧ Post ⟨T.setVm vm₁, locs, cells, slots⟩ (Value.ref b :: argsL).toArray v B ∧
      ∀ target, Steps p.tables e below (B.U.setTop { g with pc := g.pc + 3, stack := v.toList ++ rest }) target → Steps p.tables e below (T.setTop g) target := by
  obtain ⟨mk, methM, hnamed, hmethM, hstM, habM⟩ := Cond.instanceMethod_spec hinst
  obtain ⟨m8, methM', cM, hn8, hmethM', -, -, -, -, -, -, hsigM⟩ := Cond.codeWith_spec hcode
  cases Option.some.inj (hn8.symm.trans hnamed)
  cases hmethM.symm.trans hmethM'
  obtain ⟨c2, r2, m2, q1, q2, q3, q4, kP, hkP, hkPi⟩ := Cond.selects_spec hsel
  cases hcls.symm.trans q1
  cases (State.methodFound?_of_named hnamed hy).symm.trans q2
  cases hnamed.symm.trans q3
  have hselP : selectMethod e.platform s.vm cellB.cls mk = .method mk := by rw [Launch.admits_selectMethod X.admits]; exact q4
  obtain ⟨vm₁, X₁, hstep₁⟩ := X.invokevirtual hexec hown hlink hnamed hmethM hstM hkP hkPi hy (a := b) (cell := cellB) hcell
    (fun z h => by rw [h] at hobj; cases hobj) hselP hmethM habM hkP hkPi (g := g) hg (argsL := argsL) (rest := rest) (hlen _ hsigM) hstack hdg
  obtain ⟨v, B, X', hpost, hsteps⟩ := hK m meth c ⟨T.setVm vm₁, locs, cells, slots⟩ { g with stack := rest } (.invokevirtual index) mk (Value.ref b :: argsL).toArray X₁ hg hsize hdg hW (X₁.named hnamed) (hpre vm₁ X₁.warmed)
  exact ⟨v, vm₁, B, X₁.warmed, X', hpost, fun target h => hstep₁ _ fun acts => by rw [doInvoke_state]; exact hsteps.trans h⟩
abbrev vx_CVW (R : Room) (s : State) (args : Array Value) (own C : String) (index : Nat) (y : MethodName) (bytes : ByteArray) (maxL : Nat) (ret : Option FieldType) (hh : List (Nat × Nat × Nat × Nat)) (ws : List Cond) (rm : Room) (mc ms n : Nat) : Prop :=
  (rm.cells = mc ∧ rm.slots = ms ∧ rm.frames + 1 ≤ R.frames ∧ 8 + (maxL + 11) + rm.locals ≤ R.locals ∧ (∀ w ∈ ws, ∀ (a' : Array Value) (U : State), s.WarmedH U.vm → w.before a' U = true) ∧ Cond.codeWith y bytes maxL ret hh ∈ ws) ∧
  (Cond.codeWith y bytes maxL ret hh).before args s = true ∧ (Cond.initialized y.cls).before args s = true ∧ (y.cls ≠ "java/lang/invoke/MethodHandle" ∧ y.cls ≠ "java/lang/invoke/VarHandle") ∧
  (∀ sig, parseMethodDescriptor y.desc = some sig → n = sig.parameters.length) ∧ (Cond.methodLink own index y).before args s = true ∧ (Cond.instanceMethod y).before args s = true ∧ (Cond.selects C y y).before args s = true
theorem vx_cwVW {own C : String} {index maxL mc ms : Nat} {y : MethodName} {bytes : ByteArray} {ret : Option FieldType} {hh : List (Nat × Nat × Nat × Nat)} {Ts ws ws' : List Cond} {rm : Room} (n : Nat) (ht : ∀ w ∈ Ts, w.before args s = true) (hT : GoodIn Ts (wsV own index C y ws)) (hw : ws = Cond.codeWith y bytes maxL ret hh :: ws') (hrc : rm.cells = mc) (hrs : rm.slots = ms)
    (hd : y.cls = C ∧ y.cls ≠ "java/lang/invoke/MethodHandle" ∧ y.cls ≠ "java/lang/invoke/VarHandle" ∧ (parseMethodDescriptor y.desc).map (fun d => d.parameters.length) = some n) (hR : rm.frames + 1 ≤ R.frames ∧ 8 + (maxL + 11) + rm.locals ≤ R.locals) :
    vx_CVW R s args own C index y bytes maxL ret hh ws rm mc ms n := by
  obtain ⟨hC, hd⟩ := hd
  subst hC
  have ok : ∀ w ∈ wsV own index y.cls y ws, w.before args s = true := fun w h => ht w (hT w h).1
  have hG : GoodIn Ts ws := fun w h => hT w (by unfold wsV; exact List.mem_append_right _ h)
  have hc : Cond.codeWith y bytes maxL ret hh ∈ ws := by rw [hw]; exact List.mem_cons_self
  refine ⟨⟨hrc, hrs, hR.1, hR.2, pay_in ht hG, hc⟩, ht _ (hG _ hc).1, ok _ (by simp [wsV]), ⟨hd.1, hd.2.1⟩, fun sig h => ?_, ok _ (by simp [wsV]), ok _ (by simp [wsV]), ok _ (by simp [wsV])⟩
  have h2 := hd.2.2
  rw [h] at h2
  exact (Option.some.inj h2).symm
theorem vx_runVW {y : MethodName} {bytes cc : ByteArray} {maxL nL mc ms n index : Nat} {ret : Option FieldType} {hh : List (Nat × Nat × Nat × Nat)} {ws : List Cond} {rm : Room} {Pc : Array Value → State → Prop} {Qc : Array Value → State → Outcome → State → Prop} {free : Addr → Prop} {Ts : List Cond} {own C : String} {b : Addr} {As rest : List Value} {g : JFrame}
    (S : CallFix p m c cc nL s args Ts own) (hM : Met l y ws rm Pc Qc mc ms free) (cw : vx_CVW R s args own C index y bytes maxL ret hh ws rm mc ms n) (hp : PreV s H C b Pc As)
    (hg : g.method = m) (hn : As.length = n) (hsize : g.locals.size = nL) (hstack : g.stack = As.reverse ++ .ref b :: rest) (hW : 2 * g.monitorRoom + (rest.map fun v => v.category).sum ≤ 8) (hdg : decode cc g.pc = .ok (.invokevirtual index, 3)) (hf : cells + mc ≤ R.cells ∧ slots + ms ≤ R.slots) :
    va_Run p l e R s m args below meth c H locs cells slots mc ms g rest (Qc (Value.ref b :: As).toArray) free := by
  obtain ⟨⟨hrc, hrs, hfr, hlo, hws, hcw⟩, hcode, hini, hy, hlen, hl, hin, hse⟩ := cw
  have hK : Back l R p e below s args y 3 8 (PreOf R mc ms Pc) (PostOf Qc mc ms free) := va_backW (hh := hh) (bytes := bytes) (maxL := maxL) (ret := ret) hM hp.1 hrc hrs hfr hlo hws hcw (fun a' U hW => word_at hW (Or.inl (by first | rfl | simp [Cond.onTables, Cond.keeps, Cond.steady])) hini)
  obtain ⟨hx, hb, hml, ho, -⟩ := S
  obtain ⟨-, ⟨cellB, hcB, hoB, hclB⟩, hPc⟩ := hp
  intro T hT X
  obtain ⟨v, vm₁, ⟨U', l2, c2, s2⟩, hW₁, X', ⟨g', mk, t, L, e1, e2, hq, h1, hL, h2, h3⟩, st⟩ := vx_callVW X hx (C := C) (hh := hh) (bytes := bytes) (maxL := maxL) (ret := ret) ho hl hin hse hcode hy hK (by rw [hT]; exact hcB) hoB hclB hg (hsize.trans hml.symm) (argsL := As) (rest := rest) (fun sig h => hn.trans (hlen sig h)) hstack hW (by rw [hb]; exact hdg)
    (fun vm₁ hW₁ => ⟨hf.1, hf.2, hPc (T.setVm vm₁) hT hW₁⟩)
  dsimp only [Pt.U, Pt.locs, Pt.cells, Pt.slots] at X' e1 e2 h1 h2 h3 st
  subst h1; subst h2; subst h3
  exact ⟨v, (T.setVm vm₁).calling g' mk (Value.ref b :: As).toArray, t, U', L, hT, X', hL, e1, e2, hq, st⟩
section
variable {y : MethodName} {bytes cc : ByteArray} {maxL nL mc ms n index : Nat} {ret : Option FieldType} {ws : List Cond} {rm : Room} {Pc : Array Value → State → Prop} {Qc : Array Value → State → Outcome → State → Prop} {XC : String → State → State → Prop} {free : Addr → Prop} {Ts : List Cond} {own C : String} {b : Addr} {As rest : List Value} {g : JFrame}
theorem vx_runVX {hh : List (Nat × Nat × Nat × Nat)} (S : CallFix p m c cc nL s args Ts own) (hM : vx_Met l y ws rm Pc Qc XC mc ms free) (cw : vx_CVW R s args own C index y bytes maxL ret hh ws rm mc ms n) (hp : PreV s H C b Pc As)
    (hg : g.method = m) (hn : As.length = n) (hsize : g.locals.size = nL) (hstack : g.stack = As.reverse ++ .ref b :: rest) (hW : 2 * g.monitorRoom + (rest.map fun v => v.category).sum ≤ 8) (hdg : decode cc g.pc = .ok (.invokevirtual index, 3)) (hf : cells + mc ≤ R.cells ∧ slots + ms ≤ R.slots) :
    vx_Run p l e R s m args below meth c H locs cells slots mc ms g rest (Qc (Value.ref b :: As).toArray) XC free := by
  obtain ⟨⟨hrc, hrs, hfr, hlo, hws, hcw⟩, hcode, hini, hy, hlen, hl, hin, hse⟩ := cw
  have hK : vx_Back l R p e below s args y 3 8 (PreOf R mc ms Pc) (PostOf Qc mc ms free) (vx_Post XC mc ms free) := vx_backW (hh := hh) (bytes := bytes) (maxL := maxL) (ret := ret) hM hp.1 hrc hrs hfr hlo hws hcw (fun a' U hW => word_at hW (Or.inl (by first | rfl | simp [Cond.onTables, Cond.keeps, Cond.steady])) hini)
  obtain ⟨hx, hb, hml, ho, -⟩ := S
  obtain ⟨-, ⟨cellB, hcB, hoB, hclB⟩, hPc⟩ := hp
  intro T hT X
  rcases vx_callVX X hx (C := C) (hh := hh) (bytes := bytes) (maxL := maxL) (ret := ret) ho hl hin hse hcode hy hK (by rw [hT]; exact hcB) hoB hclB hg (hsize.trans hml.symm) (argsL := As) (rest := rest) (fun sig h => hn.trans (hlen sig h)) hstack hW (by rw [hb]; exact hdg)
    (fun vm₁ hW₁ => ⟨hf.1, hf.2, hPc (T.setVm vm₁) hT hW₁⟩) with ⟨v, vm₁, ⟨U', l2, c2, s2⟩, hW₁, X', ⟨g', mk, t, L, e1, e2, hq, h1, hL, h2, h3⟩, st⟩ | ⟨q, vm₁, ⟨U', l2, c2, s2⟩, hW₁, X', ⟨g', mk, t, L, E, ce, e1, e2, hq, hce, hcv, hcl, h1, hL, h2, h3⟩, st⟩
  · dsimp only [Pt.U, Pt.locs, Pt.cells, Pt.slots] at X' e1 e2 h1 h2 h3 st
    subst h1; subst h2; subst h3
    exact Or.inl ⟨v, (T.setVm vm₁).calling g' mk (Value.ref b :: As).toArray, t, U', L, hT, X', hL, e1, e2, hq, st⟩
  · dsimp only [Pt.U, Pt.locs, Pt.cells, Pt.slots] at X' e1 e2 h1 h2 h3 st hcl
    subst h1; subst h2; subst h3
    exact Or.inr ⟨q, (T.setVm vm₁).calling g' mk (Value.ref b :: As).toArray, t, U', L, E, ce, hT, X', hL, e1, e2, hq, hce, hcv, vx_cls hW₁ hcl, st⟩
theorem vx_runSX {hh : List (Nat × Nat × Nat × Nat)} (S : CallFix p m c cc nL s args Ts own) (hM : vx_Met l y ws rm Pc Qc XC mc ms free) (cw : vx_CSW R s args own index y bytes maxL ret hh ws rm mc ms n) (hp : PreS s H Pc As)
    (hg : g.method = m) (hn : As.length = n) (hsize : g.locals.size = nL) (hstack : g.stack = As.reverse ++ rest) (hW : 2 * g.monitorRoom + (rest.map fun v => v.category).sum ≤ 8) (hdg : decode cc g.pc = .ok (.invokestatic index, 3)) (hf : cells + mc ≤ R.cells ∧ slots + ms ≤ R.slots) :
    vx_Run p l e R s m args below meth c H locs cells slots mc ms g rest (Qc As.toArray) XC free := by
  obtain ⟨⟨hrc, hrs, hfr, hlo, hws, hcw⟩, hcode, hini, hy, hlen, hl, hstt⟩ := cw
  have hK : vx_Back l R p e below s args y 3 8 (PreOf R mc ms Pc) (PostOf Qc mc ms free) (vx_Post XC mc ms free) := vx_backW (hh := hh) (bytes := bytes) (maxL := maxL) (ret := ret) hM hp.1 hrc hrs hfr hlo hws hcw (fun a' U hW => word_at hW (Or.inl (by first | rfl | simp [Cond.onTables, Cond.keeps, Cond.steady])) hini)
  obtain ⟨hx, hb, hml, ho, -⟩ := S
  intro T hT X
  rcases vx_callSX X hx (hh := hh) (bytes := bytes) (maxL := maxL) (ret := ret) ho hl hstt hini hcode hy hK hg (hsize.trans hml.symm) (argsL := As) (rest := rest) (fun sig h => hn.trans (hlen sig h)) hstack hW (by rw [hb]; exact hdg)
    (fun vm₁ hW₁ => ⟨hf.1, hf.2, hp.2 (T.setVm vm₁) hT hW₁⟩) with ⟨v, vm₁, ⟨U', l2, c2, s2⟩, hW₁, X', ⟨g', mk, t, L, e1, e2, hq, h1, hL, h2, h3⟩, st⟩ | ⟨q, vm₁, ⟨U', l2, c2, s2⟩, hW₁, X', ⟨g', mk, t, L, E, ce, e1, e2, hq, hce, hcv, hcl, h1, hL, h2, h3⟩, st⟩
  · dsimp only [Pt.U, Pt.locs, Pt.cells, Pt.slots] at X' e1 e2 h1 h2 h3 st
    subst h1; subst h2; subst h3
    exact Or.inl ⟨v, (T.setVm vm₁).calling g' mk As.toArray, t, U', L, hT, X', hL, e1, e2, hq, st⟩
  · dsimp only [Pt.U, Pt.locs, Pt.cells, Pt.slots] at X' e1 e2 h1 h2 h3 st hcl
    subst h1; subst h2; subst h3
    exact Or.inr ⟨q, (T.setVm vm₁).calling g' mk As.toArray, t, U', L, E, ce, hT, X', hL, e1, e2, hq, hce, hcv, vx_cls hW₁ hcl, st⟩
end
end VXH
theorem vx_ofWH {l : Launch} {y : MethodName} {ws ws' : List Cond} {rm : Room} {Pc : Array Value → State → Prop} {Qc : Array Value → State → Outcome → State → Prop} {XC : String → State → State → Prop} {mc ms : Nat} {free : Addr → Prop} {cc : ByteArray} {maxL : Nat} {ret : Option FieldType} {hh : List (Nat × Nat × Nat × Nat)}
    (hy : plainName y.cls = true) (hw : ws = Cond.codeWith y cc maxL ret hh :: ws')
    (body : ∀ p e s m args below meth c s₁, BodyLoose p l y (headSpec ws rm) cc maxL ret e s m args below meth c s₁ → c.maxLocals = maxL → Pc args s →
      W p l e (headSpec ws rm).room s m args below meth c s.heap [] 0 0 (vx_MQ below Qc XC args s mc ms free) (entryFrame m args maxL)) : vx_Met l y ws rm Pc Qc XC mc ms free := by
  refine MetFree.of_bodyS (code := cc) (maxLocals := maxL) (ret := ret) hy ?_ ?_
  · intro args s m h hn
    obtain ⟨m9, meth, c, hn9, h1, h2, h3, h4, -, h5, h6, -⟩ := Cond.codeWith_spec (atoms_spec (ws := ws) h _ (by rw [hw]; exact List.mem_cons_self))
    cases hn.symm.trans hn9
    exact ⟨meth, c, h1, h2, h3, h4, h5, h6⟩
  · intro p e s m args below meth c s₁ B hml hP _
    have hh0 : s₁.heap = s.heap := by rw [B.state]; rfl
    obtain ⟨t, a1, o, b1, b2, b3⟩ := body p e s m args below meth c s₁ B hml hP s₁ hh0 (Stand.of_body B)
    exact ⟨t, o, a1, b1, b2, b3⟩
/-! ===== END ===== -/
end
section
/-! ===== BEGIN printed: names, fields, word lists, decode rows ===== -/
def RX0 : String := "CrewPay$Order"
def TX0 : u_T := fun k => match k with
  | 0 => ("CrewPay$Order", "worker", "LCrewPay$Worker;", true)
  | 1 => ("CrewPay$Order", "grade", "I", true)
  | 2 => ("CrewPay$Order", "left", "I", false)
  | _ => ("CrewPay$Order", "mostOfSlip", "I", true)
def tyX0 : Nat → FieldType := fun k => match k with
  | 0 => .object "CrewPay$Worker"
  | 1 => .int
  | 2 => .int
  | _ => .int
abbrev wsX00 : List Cond := u_ws RX0 TX0 4
theorem nmX0 : ∀ a, a < 4 → ∀ b, b < 4 → a ≠ b → (TX0 a).2.1 ≠ (TX0 b).2.1 := by decide +kernel
theorem tyX0_ok : ∀ k, k < 4 → parseFieldDescriptor (TX0 k).2.2.1 = some (tyX0 k) := by decide +kernel
abbrev cX0_init : ByteArray := prog_2_method_1_code
def yX0_init : MethodName := ⟨RX0, "<init>", "(LCrewPay$Worker;III)V"⟩
abbrev cX0_payOff : ByteArray := prog_2_method_2_code
def yX0_payOff : MethodName := ⟨RX0, "payOff", "(I)I"⟩
def RX1 : String := "CrewPay$Pot"
def TX1 : u_T := fun k => match k with
  | 0 => ("CrewPay$Pot", "cents", "I", false)
  | _ => ("CrewPay$Pot", "shortage", "I", false)
def tyX1 : Nat → FieldType := fun k => match k with
  | 0 => .int
  | _ => .int
abbrev wsX10 : List Cond := u_ws RX1 TX1 2
theorem nmX1 : ∀ a, a < 2 → ∀ b, b < 2 → a ≠ b → (TX1 a).2.1 ≠ (TX1 b).2.1 := by decide +kernel
theorem tyX1_ok : ∀ k, k < 2 → parseFieldDescriptor (TX1 k).2.2.1 = some (tyX1 k) := by decide +kernel
abbrev cX1_init : ByteArray := prog_3_method_1_code
def yX1_init : MethodName := ⟨RX1, "<init>", "()V"⟩
abbrev cX1_receive : ByteArray := prog_3_method_2_code
def yX1_receive : MethodName := ⟨RX1, "receive", "(I)V"⟩
abbrev cX1_lose : ByteArray := prog_3_method_3_code
def yX1_lose : MethodName := ⟨RX1, "lose", "(I)V"⟩
def RX2 : String := "CrewPay$Rates"
def TX2 : u_T := fun k => match k with
  | 0 => ("CrewPay$Rates", "day", "LCrewPay$Rule;", true)
  | _ => ("CrewPay$Rates", "night", "LCrewPay$Rule;", true)
def tyX2 : Nat → FieldType := fun k => match k with
  | 0 => .object "CrewPay$Rule"
  | _ => .object "CrewPay$Rule"
abbrev wsX20 : List Cond := u_ws RX2 TX2 2
theorem nmX2 : ∀ a, a < 2 → ∀ b, b < 2 → a ≠ b → (TX2 a).2.1 ≠ (TX2 b).2.1 := by decide +kernel
theorem tyX2_ok : ∀ k, k < 2 → parseFieldDescriptor (TX2 k).2.2.1 = some (tyX2 k) := by decide +kernel
abbrev cX2_init : ByteArray := prog_4_method_1_code
def yX2_init : MethodName := ⟨RX2, "<init>", "()V"⟩
def RX3 : String := "CrewPay$Rule"
def TX3 : u_T := fun k => match k with
  | 0 => ("CrewPay$Rule", "values", "[I", true)
  | _ => ("CrewPay$Rule", "told", "[Z", true)
def tyX3 : Nat → FieldType := fun k => match k with
  | 0 => .array .int
  | _ => .array .boolean
abbrev wsX30 : List Cond := u_ws RX3 TX3 2
theorem nmX3 : ∀ a, a < 2 → ∀ b, b < 2 → a ≠ b → (TX3 a).2.1 ≠ (TX3 b).2.1 := by decide +kernel
theorem tyX3_ok : ∀ k, k < 2 → parseFieldDescriptor (TX3 k).2.2.1 = some (tyX3 k) := by decide +kernel
abbrev cX3_init : ByteArray := prog_5_method_1_code
def yX3_init : MethodName := ⟨RX3, "<init>", "(I)V"⟩
abbrev cX3_inWeek : ByteArray := prog_5_method_2_code
def yX3_inWeek : MethodName := ⟨RX3, "inWeek", "(I)I"⟩
abbrev cX3_tell : ByteArray := prog_5_method_3_code
def yX3_tell : MethodName := ⟨RX3, "tell", "(II)V"⟩
def RX4 : String := "CrewPay$Sheet"
def TX4 : u_T := fun k => match k with
  | 0 => ("CrewPay$Sheet", "week", "I", true)
  | 1 => ("CrewPay$Sheet", "day", "I", false)
  | _ => ("CrewPay$Sheet", "night", "I", false)
def tyX4 : Nat → FieldType := fun k => match k with
  | 0 => .int
  | 1 => .int
  | _ => .int
abbrev wsX40 : List Cond := u_ws RX4 TX4 3
theorem nmX4 : ∀ a, a < 3 → ∀ b, b < 3 → a ≠ b → (TX4 a).2.1 ≠ (TX4 b).2.1 := by decide +kernel
theorem tyX4_ok : ∀ k, k < 3 → parseFieldDescriptor (TX4 k).2.2.1 = some (tyX4 k) := by decide +kernel
abbrev cX4_init : ByteArray := prog_6_method_1_code
def yX4_init : MethodName := ⟨RX4, "<init>", "(III)V"⟩
def RX5 : String := "CrewPay$Slip"
def TX5 : u_T := fun k => match k with
  | 0 => ("CrewPay$Slip", "gross", "I", true)
  | 1 => ("CrewPay$Slip", "takenBack", "I", true)
  | 2 => ("CrewPay$Slip", "garnished", "I", true)
  | _ => ("CrewPay$Slip", "paidOut", "I", true)
def tyX5 : Nat → FieldType := fun k => match k with
  | 0 => .int
  | 1 => .int
  | 2 => .int
  | _ => .int
abbrev wsX50 : List Cond := u_ws RX5 TX5 4
theorem nmX5 : ∀ a, a < 4 → ∀ b, b < 4 → a ≠ b → (TX5 a).2.1 ≠ (TX5 b).2.1 := by decide +kernel
theorem tyX5_ok : ∀ k, k < 4 → parseFieldDescriptor (TX5 k).2.2.1 = some (tyX5 k) := by decide +kernel
abbrev cX5_init : ByteArray := prog_7_method_1_code
def yX5_init : MethodName := ⟨RX5, "<init>", "(IIII)V"⟩
abbrev cX5_part : ByteArray := prog_7_method_2_code
def yX5_part : MethodName := ⟨RX5, "part", "(I)I"⟩
def RX6 : String := "CrewPay$Transfer"
def TX6 : u_T := fun k => match k with
  | 0 => ("CrewPay$Transfer", "pot", "LCrewPay$Pot;", true)
  | 1 => ("CrewPay$Transfer", "amount", "I", true)
  | _ => ("CrewPay$Transfer", "bounced", "Z", false)
def tyX6 : Nat → FieldType := fun k => match k with
  | 0 => .object "CrewPay$Pot"
  | 1 => .int
  | _ => .boolean
abbrev wsX60 : List Cond := u_ws RX6 TX6 3
theorem nmX6 : ∀ a, a < 3 → ∀ b, b < 3 → a ≠ b → (TX6 a).2.1 ≠ (TX6 b).2.1 := by decide +kernel
theorem tyX6_ok : ∀ k, k < 3 → parseFieldDescriptor (TX6 k).2.2.1 = some (tyX6 k) := by decide +kernel
abbrev cX6_init : ByteArray := prog_8_method_1_code
def yX6_init : MethodName := ⟨RX6, "<init>", "(LCrewPay$Pot;I)V"⟩
def RX7 : String := "CrewPay$Worker"
def TX7 : u_T := fun k => match k with
  | 0 => ("CrewPay$Worker", "pot", "LCrewPay$Pot;", true)
  | 1 => ("CrewPay$Worker", "rank", "LCrewPay$Rule;", true)
  | 2 => ("CrewPay$Worker", "counting", "I", false)
  | 3 => ("CrewPay$Worker", "reckoned", "I", false)
  | 4 => ("CrewPay$Worker", "toTakeBack", "I", false)
  | 5 => ("CrewPay$Worker", "everToTakeBack", "I", false)
  | 6 => ("CrewPay$Worker", "sheets", "[LCrewPay$Sheet;", true)
  | _ => ("CrewPay$Worker", "slips", "[LCrewPay$Slip;", true)
def tyX7 : Nat → FieldType := fun k => match k with
  | 0 => .object "CrewPay$Pot"
  | 1 => .object "CrewPay$Rule"
  | 2 => .int
  | 3 => .int
  | 4 => .int
  | 5 => .int
  | 6 => .array (.object "CrewPay$Sheet")
  | _ => .array (.object "CrewPay$Slip")
abbrev wsX70 : List Cond := u_ws RX7 TX7 8
theorem nmX7 : ∀ a, a < 8 → ∀ b, b < 8 → a ≠ b → (TX7 a).2.1 ≠ (TX7 b).2.1 := by decide +kernel
theorem tyX7_ok : ∀ k, k < 8 → parseFieldDescriptor (TX7 k).2.2.1 = some (tyX7 k) := by decide +kernel
abbrev cX7_init : ByteArray := prog_9_method_1_code
def yX7_init : MethodName := ⟨RX7, "<init>", "(LCrewPay$Pot;)V"⟩
abbrev cX7_sheet : ByteArray := prog_9_method_2_code
def yX7_sheet : MethodName := ⟨RX7, "sheet", "(I)LCrewPay$Sheet;"⟩
abbrev cX7_take : ByteArray := prog_9_method_3_code
def yX7_take : MethodName := ⟨RX7, "take", "(ILCrewPay$Sheet;)V"⟩
abbrev cX7_owe : ByteArray := prog_9_method_4_code
def yX7_owe : MethodName := ⟨RX7, "owe", "(I)V"⟩
abbrev cX7_keepSlip : ByteArray := prog_9_method_5_code
def yX7_keepSlip : MethodName := ⟨RX7, "keepSlip", "(ILCrewPay$Slip;)V"⟩
abbrev cX7_slipPart : ByteArray := prog_9_method_6_code
def yX7_slipPart : MethodName := ⟨RX7, "slipPart", "(II)I"⟩
def RX8 : String := "CrewPay"
def TX8 : u_T := fun k => match k with
  | 0 => ("CrewPay", "pots", "[LCrewPay$Pot;", true)
  | 1 => ("CrewPay", "ratesByRank", "[LCrewPay$Rates;", true)
  | 2 => ("CrewPay", "workers", "[LCrewPay$Worker;", true)
  | 3 => ("CrewPay", "orders", "[LCrewPay$Order;", true)
  | 4 => ("CrewPay", "transfers", "[LCrewPay$Transfer;", true)
  | 5 => ("CrewPay", "workerCount", "I", false)
  | 6 => ("CrewPay", "orderCount", "I", false)
  | 7 => ("CrewPay", "transferCount", "I", false)
  | 8 => ("CrewPay", "floor", "I", false)
  | _ => ("CrewPay", "weekOfNow", "I", false)
def tyX8 : Nat → FieldType := fun k => match k with
  | 0 => .array (.object "CrewPay$Pot")
  | 1 => .array (.object "CrewPay$Rates")
  | 2 => .array (.object "CrewPay$Worker")
  | 3 => .array (.object "CrewPay$Order")
  | 4 => .array (.object "CrewPay$Transfer")
  | 5 => .int
  | 6 => .int
  | 7 => .int
  | 8 => .int
  | _ => .int
abbrev wsX80 : List Cond := u_ws RX8 TX8 10
theorem nmX8 : ∀ a, a < 10 → ∀ b, b < 10 → a ≠ b → (TX8 a).2.1 ≠ (TX8 b).2.1 := by decide +kernel
theorem tyX8_ok : ∀ k, k < 10 → parseFieldDescriptor (TX8 k).2.2.1 = some (tyX8 k) := by decide +kernel
abbrev cX8_init : ByteArray := prog_1_method_1_code
def yX8_init : MethodName := ⟨RX8, "<init>", "()V"⟩
abbrev cX8_addWorker : ByteArray := prog_1_method_2_code
def yX8_addWorker : MethodName := ⟨RX8, "addWorker", "(I)I"⟩
abbrev cX8_setRank : ByteArray := prog_1_method_3_code
def yX8_setRank : MethodName := ⟨RX8, "setRank", "(III)I"⟩
abbrev cX8_setRates : ByteArray := prog_1_method_4_code
def yX8_setRates : MethodName := ⟨RX8, "setRates", "(IIII)I"⟩
abbrev cX8_come : ByteArray := prog_1_method_5_code
def yX8_come : MethodName := ⟨RX8, "come", "(IIIII)I"⟩
abbrev cX8_correct : ByteArray := prog_1_method_6_code
def yX8_correct : MethodName := ⟨RX8, "correct", "(IIII)I"⟩
abbrev cX8_acknowledged : ByteArray := prog_1_method_7_code
def yX8_acknowledged : MethodName := ⟨RX8, "acknowledged", "(I)I"⟩
abbrev cX8_due : ByteArray := prog_1_method_8_code
def yX8_due : MethodName := ⟨RX8, "due", "(II)I"⟩
abbrev cX8_order : ByteArray := prog_1_method_9_code
def yX8_order : MethodName := ⟨RX8, "order", "(IIII)I"⟩
abbrev cX8_left : ByteArray := prog_1_method_10_code
def yX8_left : MethodName := ⟨RX8, "left", "(I)I"⟩
abbrev cX8_setFloor : ByteArray := prog_1_method_11_code
def yX8_setFloor : MethodName := ⟨RX8, "setFloor", "(I)I"⟩
abbrev cX8_fill : ByteArray := prog_1_method_12_code
def yX8_fill : MethodName := ⟨RX8, "fill", "(II)I"⟩
abbrev cX8_bounce : ByteArray := prog_1_method_13_code
def yX8_bounce : MethodName := ⟨RX8, "bounce", "(I)I"⟩
abbrev cX8_pot : ByteArray := prog_1_method_14_code
def yX8_pot : MethodName := ⟨RX8, "pot", "(I)I"⟩
abbrev cX8_shortage : ByteArray := prog_1_method_15_code
def yX8_shortage : MethodName := ⟨RX8, "shortage", "(I)I"⟩
abbrev cX8_close : ByteArray := prog_1_method_16_code
def yX8_close : MethodName := ⟨RX8, "close", "()I"⟩
abbrev cX8_week : ByteArray := prog_1_method_17_code
def yX8_week : MethodName := ⟨RX8, "week", "()I"⟩
abbrev cX8_slip : ByteArray := prog_1_method_18_code
def yX8_slip : MethodName := ⟨RX8, "slip", "(III)I"⟩
abbrev cX8_toTakeBack : ByteArray := prog_1_method_19_code
def yX8_toTakeBack : MethodName := ⟨RX8, "toTakeBack", "(I)I"⟩
abbrev cX8_claim : ByteArray := prog_1_method_20_code
def yX8_claim : MethodName := ⟨RX8, "claim", "(I)I"⟩
abbrev cX8_claimBySlips : ByteArray := prog_1_method_21_code
def yX8_claimBySlips : MethodName := ⟨RX8, "claimBySlips", "(I)I"⟩
abbrev cX8_workerOf : ByteArray := prog_1_method_22_code
def yX8_workerOf : MethodName := ⟨RX8, "workerOf", "(I)LCrewPay$Worker;"⟩
abbrev cX8_potOf : ByteArray := prog_1_method_23_code
def yX8_potOf : MethodName := ⟨RX8, "potOf", "(I)LCrewPay$Pot;"⟩
abbrev cX8_ratesOf : ByteArray := prog_1_method_24_code
def yX8_ratesOf : MethodName := ⟨RX8, "ratesOf", "(I)LCrewPay$Rates;"⟩
abbrev cX8_ratesOrNull : ByteArray := prog_1_method_25_code
def yX8_ratesOrNull : MethodName := ⟨RX8, "ratesOrNull", "(I)LCrewPay$Rates;"⟩
abbrev cX8_checkWeek : ByteArray := prog_1_method_26_code
def yX8_checkWeek : MethodName := ⟨RX8, "checkWeek", "(I)V"⟩
abbrev cX8_checkHours : ByteArray := prog_1_method_27_code
def yX8_checkHours : MethodName := ⟨RX8, "checkHours", "(II)V"⟩
abbrev cX8_checkRange : ByteArray := prog_1_method_28_code
def yX8_checkRange : MethodName := ⟨RX8, "checkRange", "(III)V"⟩
abbrev cX8_dueBetween : ByteArray := prog_1_method_29_code
def yX8_dueBetween : MethodName := ⟨RX8, "dueBetween", "(LCrewPay$Worker;II)I"⟩
abbrev cX8_payFor : ByteArray := prog_1_method_30_code
def yX8_payFor : MethodName := ⟨RX8, "payFor", "(LCrewPay$Sheet;LCrewPay$Rates;)I"⟩
abbrev cX8_claimOf : ByteArray := prog_1_method_31_code
def yX8_claimOf : MethodName := ⟨RX8, "claimOf", "(LCrewPay$Worker;)I"⟩
abbrev cX8_settle : ByteArray := prog_1_method_32_code
def yX8_settle : MethodName := ⟨RX8, "settle", "(LCrewPay$Worker;)Z"⟩
abbrev cX8_pay : ByteArray := prog_1_method_33_code
def yX8_pay : MethodName := ⟨RX8, "pay", "(LCrewPay$Worker;I)V"⟩
abbrev cX8_garnish : ByteArray := prog_1_method_34_code
def yX8_garnish : MethodName := ⟨RX8, "garnish", "(LCrewPay$Worker;I)I"⟩
def RX9 : String := "CrewPayModel"
def TX9 : u_T := fun k => match k with
  | 0 => ("CrewPayModel", "thrown", "I", false)
  | 1 => ("CrewPayModel", "week", "I", false)
  | 2 => ("CrewPayModel", "workers", "I", false)
  | 3 => ("CrewPayModel", "employers", "[I", true)
  | 4 => ("CrewPayModel", "ranks", "[I", true)
  | 5 => ("CrewPayModel", "days", "[I", true)
  | 6 => ("CrewPayModel", "nights", "[I", true)
  | 7 => ("CrewPayModel", "sheetWeeks", "[I", true)
  | 8 => ("CrewPayModel", "dayHours", "[I", true)
  | 9 => ("CrewPayModel", "nightHours", "[I", true)
  | 10 => ("CrewPayModel", "reckoned", "[I", true)
  | 11 => ("CrewPayModel", "toTakeBack", "[I", true)
  | 12 => ("CrewPayModel", "slips", "[I", true)
  | 13 => ("CrewPayModel", "orders", "I", false)
  | 14 => ("CrewPayModel", "orderWorkers", "[I", true)
  | 15 => ("CrewPayModel", "grades", "[I", true)
  | 16 => ("CrewPayModel", "lefts", "[I", true)
  | 17 => ("CrewPayModel", "parts", "[I", true)
  | 18 => ("CrewPayModel", "floor", "I", false)
  | 19 => ("CrewPayModel", "pots", "[I", true)
  | 20 => ("CrewPayModel", "shortages", "[I", true)
  | 21 => ("CrewPayModel", "transfers", "I", false)
  | 22 => ("CrewPayModel", "transferTo", "[I", true)
  | 23 => ("CrewPayModel", "transferred", "[I", true)
  | _ => ("CrewPayModel", "haveBounced", "[Z", true)
def tyX9 : Nat → FieldType := fun k => match k with
  | 0 => .int
  | 1 => .int
  | 2 => .int
  | 3 => .array .int
  | 4 => .array .int
  | 5 => .array .int
  | 6 => .array .int
  | 7 => .array .int
  | 8 => .array .int
  | 9 => .array .int
  | 10 => .array .int
  | 11 => .array .int
  | 12 => .array .int
  | 13 => .int
  | 14 => .array .int
  | 15 => .array .int
  | 16 => .array .int
  | 17 => .array .int
  | 18 => .int
  | 19 => .array .int
  | 20 => .array .int
  | 21 => .int
  | 22 => .array .int
  | 23 => .array .int
  | _ => .array .boolean
abbrev wsX90 : List Cond := u_ws RX9 TX9 25
theorem nmX9 : ∀ a, a < 25 → ∀ b, b < 25 → a ≠ b → (TX9 a).2.1 ≠ (TX9 b).2.1 := by decide +kernel
theorem tyX9_ok : ∀ k, k < 25 → parseFieldDescriptor (TX9 k).2.2.1 = some (tyX9 k) := by decide +kernel
abbrev cX9_init : ByteArray := prog_11_method_1_code
def yX9_init : MethodName := ⟨RX9, "<init>", "()V"⟩
abbrev cX9_thrown : ByteArray := prog_11_method_2_code
def yX9_thrown : MethodName := ⟨RX9, "thrown", "()I"⟩
abbrev cX9_holds : ByteArray := prog_11_method_3_code
def yX9_holds : MethodName := ⟨RX9, "holds", "(I)Z"⟩
abbrev cX9_in : ByteArray := prog_11_method_4_code
def yX9_in : MethodName := ⟨RX9, "in", "(III)Z"⟩
abbrev cX9_isWorker : ByteArray := prog_11_method_5_code
def yX9_isWorker : MethodName := ⟨RX9, "isWorker", "(I)Z"⟩
abbrev cX9_isWeek : ByteArray := prog_11_method_6_code
def yX9_isWeek : MethodName := ⟨RX9, "isWeek", "(I)Z"⟩
abbrev cX9_areHours : ByteArray := prog_11_method_7_code
def yX9_areHours : MethodName := ⟨RX9, "areHours", "(II)Z"⟩
abbrev cX9_least : ByteArray := prog_11_method_8_code
def yX9_least : MethodName := ⟨RX9, "least", "(II)I"⟩
abbrev cX9_addWorker : ByteArray := prog_11_method_9_code
def yX9_addWorker : MethodName := ⟨RX9, "addWorker", "(I)I"⟩
abbrev cX9_told : ByteArray := prog_11_method_10_code
def yX9_told : MethodName := ⟨RX9, "told", "([III)I"⟩
abbrev cX9_setRank : ByteArray := prog_11_method_11_code
def yX9_setRank : MethodName := ⟨RX9, "setRank", "(III)I"⟩
abbrev cX9_setRates : ByteArray := prog_11_method_12_code
def yX9_setRates : MethodName := ⟨RX9, "setRates", "(IIII)I"⟩
abbrev cX9_counting : ByteArray := prog_11_method_13_code
def yX9_counting : MethodName := ⟨RX9, "counting", "(I)I"⟩
abbrev cX9_come : ByteArray := prog_11_method_14_code
def yX9_come : MethodName := ⟨RX9, "come", "(IIIII)I"⟩
abbrev cX9_correct : ByteArray := prog_11_method_15_code
def yX9_correct : MethodName := ⟨RX9, "correct", "(IIII)I"⟩
abbrev cX9_acknowledged : ByteArray := prog_11_method_16_code
def yX9_acknowledged : MethodName := ⟨RX9, "acknowledged", "(I)I"⟩
abbrev cX9_dueFor : ByteArray := prog_11_method_17_code
def yX9_dueFor : MethodName := ⟨RX9, "dueFor", "(II)I"⟩
abbrev cX9_due : ByteArray := prog_11_method_18_code
def yX9_due : MethodName := ⟨RX9, "due", "(II)I"⟩
abbrev cX9_order : ByteArray := prog_11_method_19_code
def yX9_order : MethodName := ⟨RX9, "order", "(IIII)I"⟩
abbrev cX9_left : ByteArray := prog_11_method_20_code
def yX9_left : MethodName := ⟨RX9, "left", "(I)I"⟩
abbrev cX9_setFloor : ByteArray := prog_11_method_21_code
def yX9_setFloor : MethodName := ⟨RX9, "setFloor", "(I)I"⟩
abbrev cX9_isEmployer : ByteArray := prog_11_method_22_code
def yX9_isEmployer : MethodName := ⟨RX9, "isEmployer", "(I)Z"⟩
abbrev cX9_fill : ByteArray := prog_11_method_23_code
def yX9_fill : MethodName := ⟨RX9, "fill", "(II)I"⟩
abbrev cX9_bounce : ByteArray := prog_11_method_24_code
def yX9_bounce : MethodName := ⟨RX9, "bounce", "(I)I"⟩
abbrev cX9_pot : ByteArray := prog_11_method_25_code
def yX9_pot : MethodName := ⟨RX9, "pot", "(I)I"⟩
abbrev cX9_shortage : ByteArray := prog_11_method_26_code
def yX9_shortage : MethodName := ⟨RX9, "shortage", "(I)I"⟩
abbrev cX9_claimOf : ByteArray := prog_11_method_27_code
def yX9_claimOf : MethodName := ⟨RX9, "claimOf", "(I)I"⟩
abbrev cX9_garnishes : ByteArray := prog_11_method_28_code
def yX9_garnishes : MethodName := ⟨RX9, "garnishes", "(II)I"⟩
abbrev cX9_pays : ByteArray := prog_11_method_29_code
def yX9_pays : MethodName := ⟨RX9, "pays", "(II)V"⟩
abbrev cX9_close : ByteArray := prog_11_method_30_code
def yX9_close : MethodName := ⟨RX9, "close", "()I"⟩
abbrev cX9_week : ByteArray := prog_11_method_31_code
def yX9_week : MethodName := ⟨RX9, "week", "()I"⟩
abbrev cX9_slip : ByteArray := prog_11_method_32_code
def yX9_slip : MethodName := ⟨RX9, "slip", "(III)I"⟩
abbrev cX9_toTakeBack : ByteArray := prog_11_method_33_code
def yX9_toTakeBack : MethodName := ⟨RX9, "toTakeBack", "(I)I"⟩
abbrev cX9_claim : ByteArray := prog_11_method_34_code
def yX9_claim : MethodName := ⟨RX9, "claim", "(I)I"⟩
abbrev cX9_claimBySlips : ByteArray := prog_11_method_35_code
def yX9_claimBySlips : MethodName := ⟨RX9, "claimBySlips", "(I)I"⟩
def RJ9 : String := "java/lang/Math"
def TJ9 : u_T := fun k => match k with
  | _ => ("", "", "", false)
def tyJ9 : Nat → FieldType := fun k => match k with
  | _ => .int
abbrev wsJ90 : List Cond := u_ws RJ9 TJ9 0
theorem nmJ9 : ∀ a, a < 0 → ∀ b, b < 0 → a ≠ b → (TJ9 a).2.1 ≠ (TJ9 b).2.1 := by decide +kernel
theorem tyJ9_ok : ∀ k, k < 0 → parseFieldDescriptor (TJ9 k).2.2.1 = some (tyJ9 k) := by decide +kernel
abbrev cJ9_max_7cf53 : ByteArray := prog_16_method_65_code
def yJ9_max_7cf53 : MethodName := ⟨RJ9, "max", "(II)I"⟩
abbrev cJ9_min_7cf53 : ByteArray := prog_16_method_69_code
def yJ9_min_7cf53 : MethodName := ⟨RJ9, "min", "(II)I"⟩
def RJ0 : String := "java/lang/String"
def TJ0 : u_T := fun k => match k with
  | _ => ("", "", "", false)
def tyJ0 : Nat → FieldType := fun k => match k with
  | _ => .int
abbrev wsJ00 : List Cond := u_ws RJ0 TJ0 0
theorem nmJ0 : ∀ a, a < 0 → ∀ b, b < 0 → a ≠ b → (TJ0 a).2.1 ≠ (TJ0 b).2.1 := by decide +kernel
theorem tyJ0_ok : ∀ k, k < 0 → parseFieldDescriptor (TJ0 k).2.2.1 = some (tyJ0 k) := by decide +kernel
def RL : String := "CrewPayLaw"
abbrev cL_addWorker : ByteArray := method_3_code
def yL_addWorker : MethodName := ⟨RL, "addWorker", "(LCrewPay;I[J)I"⟩
abbrev cL_setRank : ByteArray := method_4_code
def yL_setRank : MethodName := ⟨RL, "setRank", "(LCrewPay;III[J)I"⟩
abbrev cL_setRates : ByteArray := method_5_code
def yL_setRates : MethodName := ⟨RL, "setRates", "(LCrewPay;IIII[J)I"⟩
abbrev cL_come : ByteArray := method_6_code
def yL_come : MethodName := ⟨RL, "come", "(LCrewPay;IIIII[J)I"⟩
abbrev cL_correct : ByteArray := method_7_code
def yL_correct : MethodName := ⟨RL, "correct", "(LCrewPay;IIII[J)I"⟩
abbrev cL_acknowledged : ByteArray := method_8_code
def yL_acknowledged : MethodName := ⟨RL, "acknowledged", "(LCrewPay;I[J)I"⟩
abbrev cL_due : ByteArray := method_9_code
def yL_due : MethodName := ⟨RL, "due", "(LCrewPay;II[J)I"⟩
abbrev cL_order : ByteArray := method_10_code
def yL_order : MethodName := ⟨RL, "order", "(LCrewPay;IIII[J)I"⟩
abbrev cL_left : ByteArray := method_11_code
def yL_left : MethodName := ⟨RL, "left", "(LCrewPay;I[J)I"⟩
abbrev cL_setFloor : ByteArray := method_12_code
def yL_setFloor : MethodName := ⟨RL, "setFloor", "(LCrewPay;I[J)I"⟩
abbrev cL_fill : ByteArray := method_13_code
def yL_fill : MethodName := ⟨RL, "fill", "(LCrewPay;II[J)I"⟩
abbrev cL_bounce : ByteArray := method_14_code
def yL_bounce : MethodName := ⟨RL, "bounce", "(LCrewPay;I[J)I"⟩
abbrev cL_pot : ByteArray := method_15_code
def yL_pot : MethodName := ⟨RL, "pot", "(LCrewPay;I[J)I"⟩
abbrev cL_shortage : ByteArray := method_16_code
def yL_shortage : MethodName := ⟨RL, "shortage", "(LCrewPay;I[J)I"⟩
abbrev cL_close : ByteArray := method_17_code
def yL_close : MethodName := ⟨RL, "close", "(LCrewPay;[J)I"⟩
abbrev cL_slip : ByteArray := method_18_code
def yL_slip : MethodName := ⟨RL, "slip", "(LCrewPay;III[J)I"⟩
abbrev cL_toTakeBack : ByteArray := method_19_code
def yL_toTakeBack : MethodName := ⟨RL, "toTakeBack", "(LCrewPay;I[J)I"⟩
abbrev cL_claim : ByteArray := method_20_code
def yL_claim : MethodName := ⟨RL, "claim", "(LCrewPay;I[J)I"⟩
abbrev cL_claimBySlips : ByteArray := method_21_code
def yL_claimBySlips : MethodName := ⟨RL, "claimBySlips", "(LCrewPay;I[J)I"⟩
abbrev cL_law : ByteArray := code
def yL_law : MethodName := ⟨RL, "law", "([I)Z"⟩
def wsX0_init : List Cond := .code yX0_init cX0_init 5 none :: ([.methodLink RX0 1 objectInit, .instanceMethod objectInit, .code objectInit ⟨#[0xb1]⟩ 1 none, .fieldLink RX0 7 "CrewPay$Order" "worker" "LCrewPay$Worker;", .fieldLink RX0 13 "CrewPay$Order" "grade" "I", .fieldLink RX0 17 "CrewPay$Order" "left" "I", .fieldLink RX0 20 "CrewPay$Order" "mostOfSlip" "I"] ++ wsX00)
def wsX0_payOff : List Cond := .code yX0_payOff cX0_payOff 3 (some .int) :: ([.fieldLink RX0 17 "CrewPay$Order" "left" "I", .fieldLink RX0 20 "CrewPay$Order" "mostOfSlip" "I", .methodLink RX0 23 Lib.Math.min.name, .static Lib.Math.min.name, .initialized "java/lang/Math", .code Lib.Math.min.name Lib.Math.min.code 2 (some .int), .methodLink RX0 29 Lib.Math.max.name, .static Lib.Math.max.name, .code Lib.Math.max.name Lib.Math.max.code 2 (some .int)] ++ wsX00)
def wsX1_init : List Cond := .code yX1_init cX1_init 1 none :: ([.methodLink RX1 1 objectInit, .instanceMethod objectInit, .code objectInit ⟨#[0xb1]⟩ 1 none, .fieldLink RX1 7 "CrewPay$Pot" "cents" "I", .fieldLink RX1 13 "CrewPay$Pot" "shortage" "I"] ++ wsX10)
def wsX1_receive : List Cond := .code yX1_receive cX1_receive 3 none :: ([.fieldLink RX1 13 "CrewPay$Pot" "shortage" "I", .methodLink RX1 16 Lib.Math.min.name, .static Lib.Math.min.name, .initialized "java/lang/Math", .code Lib.Math.min.name Lib.Math.min.code 2 (some .int), .fieldLink RX1 7 "CrewPay$Pot" "cents" "I"] ++ wsX10)
def wsX1_lose : List Cond := .code yX1_lose cX1_lose 3 none :: ([.fieldLink RX1 7 "CrewPay$Pot" "cents" "I", .methodLink RX1 16 Lib.Math.min.name, .static Lib.Math.min.name, .initialized "java/lang/Math", .code Lib.Math.min.name Lib.Math.min.code 2 (some .int), .fieldLink RX1 13 "CrewPay$Pot" "shortage" "I"] ++ wsX10)
def wsX3_init : List Cond := .code yX3_init cX3_init 3 none :: ([.methodLink RX3 3 objectInit, .instanceMethod objectInit, .code objectInit ⟨#[0xb1]⟩ 1 none, .arrayClass .int, .fieldLink RX3 9 "CrewPay$Rule" "values" "[I", .arrayClass .boolean, .fieldLink RX3 15 "CrewPay$Rule" "told" "[Z"] ++ wsX30)
def wsX2_init : List Cond := .code yX2_init cX2_init 1 none :: ([.methodLink RX2 3 objectInit, .instanceMethod objectInit, .code objectInit ⟨#[0xb1]⟩ 1 none, .classLink RX2 9 RX3, .instantiable RX3 2, .initialized RX3, .fieldLink RX2 14 "CrewPay$Rates" "day" "LCrewPay$Rule;", .fieldLink RX2 20 "CrewPay$Rates" "night" "LCrewPay$Rule;", .methodLink RX2 11 yX3_init, .instanceMethod yX3_init, .code yX3_init cX3_init 3 none, .methodLink RX3 3 objectInit, .arrayClass .int, .fieldLink RX3 9 "CrewPay$Rule" "values" "[I", .arrayClass .boolean, .fieldLink RX3 15 "CrewPay$Rule" "told" "[Z"] ++ wsX30 ++ wsX20)
def wsX3_inWeek : List Cond := .code yX3_inWeek cX3_inWeek 2 (some .int) :: ([.fieldLink RX3 9 "CrewPay$Rule" "values" "[I"] ++ wsX30)
def wsX3_tell : List Cond := .code yX3_tell cX3_tell 4 none :: ([.fieldLink RX3 9 "CrewPay$Rule" "values" "[I", .fieldLink RX3 15 "CrewPay$Rule" "told" "[Z"] ++ wsX30)
def wsX4_init : List Cond := .code yX4_init cX4_init 4 none :: ([.methodLink RX4 1 objectInit, .instanceMethod objectInit, .code objectInit ⟨#[0xb1]⟩ 1 none, .fieldLink RX4 7 "CrewPay$Sheet" "week" "I", .fieldLink RX4 13 "CrewPay$Sheet" "day" "I", .fieldLink RX4 16 "CrewPay$Sheet" "night" "I"] ++ wsX40)
def wsX5_init : List Cond := .code yX5_init cX5_init 5 none :: ([.methodLink RX5 3 objectInit, .instanceMethod objectInit, .code objectInit ⟨#[0xb1]⟩ 1 none, .fieldLink RX5 9 "CrewPay$Slip" "gross" "I", .fieldLink RX5 15 "CrewPay$Slip" "takenBack" "I", .fieldLink RX5 18 "CrewPay$Slip" "garnished" "I", .fieldLink RX5 21 "CrewPay$Slip" "paidOut" "I"] ++ wsX50)
def wsX5_part : List Cond := .code yX5_part cX5_part 2 (some .int) :: ([.fieldLink RX5 9 "CrewPay$Slip" "gross" "I", .fieldLink RX5 15 "CrewPay$Slip" "takenBack" "I", .fieldLink RX5 18 "CrewPay$Slip" "garnished" "I", .fieldLink RX5 21 "CrewPay$Slip" "paidOut" "I"] ++ wsX50)
def wsX6_init : List Cond := .code yX6_init cX6_init 3 none :: ([.methodLink RX6 1 objectInit, .instanceMethod objectInit, .code objectInit ⟨#[0xb1]⟩ 1 none, .fieldLink RX6 7 "CrewPay$Transfer" "bounced" "Z", .fieldLink RX6 13 "CrewPay$Transfer" "pot" "LCrewPay$Pot;", .fieldLink RX6 17 "CrewPay$Transfer" "amount" "I"] ++ wsX60)
def wsX7_init : List Cond := .code yX7_init cX7_init 2 none :: ([.methodLink RX7 3 objectInit, .instanceMethod objectInit, .code objectInit ⟨#[0xb1]⟩ 1 none, .classLink RX7 9 RX3, .instantiable RX3 2, .initialized RX3, .fieldLink RX7 14 "CrewPay$Worker" "rank" "LCrewPay$Rule;", .fieldLink RX7 20 "CrewPay$Worker" "counting" "I", .fieldLink RX7 24 "CrewPay$Worker" "reckoned" "I", .fieldLink RX7 27 "CrewPay$Worker" "toTakeBack" "I", .fieldLink RX7 30 "CrewPay$Worker" "everToTakeBack" "I", .classLink RX7 33 RX4, .fieldLink RX7 35 "CrewPay$Worker" "sheets" "[LCrewPay$Sheet;", .classLink RX7 39 RX5, .fieldLink RX7 41 "CrewPay$Worker" "slips" "[LCrewPay$Slip;", .fieldLink RX7 45 "CrewPay$Worker" "pot" "LCrewPay$Pot;", .methodLink RX7 11 yX3_init, .instanceMethod yX3_init, .code yX3_init cX3_init 3 none, .methodLink RX3 3 objectInit, .arrayClass .int, .fieldLink RX3 9 "CrewPay$Rule" "values" "[I", .arrayClass .boolean, .fieldLink RX3 15 "CrewPay$Rule" "told" "[Z"] ++ wsX30 ++ wsX70)
def wsX7_sheet : List Cond := .code yX7_sheet cX7_sheet 2 (some (.object "CrewPay$Sheet")) :: ([.fieldLink RX7 35 "CrewPay$Worker" "sheets" "[LCrewPay$Sheet;"] ++ wsX70)
def wsX7_take : List Cond := .code yX7_take cX7_take 3 none :: ([.fieldLink RX7 35 "CrewPay$Worker" "sheets" "[LCrewPay$Sheet;", .fieldLink RX7 20 "CrewPay$Worker" "counting" "I", .methodLink RX7 49 yX7_sheet, .instanceMethod yX7_sheet, .selects RX7 yX7_sheet yX7_sheet, .initialized RX7, .code yX7_sheet cX7_sheet 2 (some (.object "CrewPay$Sheet"))] ++ wsX70)
def wsX7_owe : List Cond := .code yX7_owe cX7_owe 2 none :: ([.fieldLink RX7 27 "CrewPay$Worker" "toTakeBack" "I", .fieldLink RX7 30 "CrewPay$Worker" "everToTakeBack" "I", .fieldLink RX7 24 "CrewPay$Worker" "reckoned" "I"] ++ wsX70)
def wsX7_keepSlip : List Cond := .code yX7_keepSlip cX7_keepSlip 3 none :: ([.fieldLink RX7 41 "CrewPay$Worker" "slips" "[LCrewPay$Slip;"] ++ wsX70)
def wsX7_slipPart : List Cond := .code yX7_slipPart cX7_slipPart 4 (some .int) :: ([.fieldLink RX7 41 "CrewPay$Worker" "slips" "[LCrewPay$Slip;", .methodLink RX7 53 yX5_part, .instanceMethod yX5_part, .selects RX5 yX5_part yX5_part, .initialized RX5, .code yX5_part cX5_part 2 (some .int), .fieldLink RX5 9 "CrewPay$Slip" "gross" "I", .fieldLink RX5 15 "CrewPay$Slip" "takenBack" "I", .fieldLink RX5 18 "CrewPay$Slip" "garnished" "I", .fieldLink RX5 21 "CrewPay$Slip" "paidOut" "I"] ++ wsX70 ++ wsX50)
def wsX8_init_r1 : List Cond := [Cond.methodLink RX8 1 objectInit, Cond.instanceMethod objectInit, Cond.code objectInit ⟨#[0xb1]⟩ 1 none, Cond.classLink RX8 9 RX1, Cond.fieldLink RX8 11 "CrewPay" "pots" "[LCrewPay$Pot;", Cond.classLink RX8 15 RX2, Cond.fieldLink RX8 17 "CrewPay" "ratesByRank" "[LCrewPay$Rates;", Cond.classLink RX8 21 RX7, Cond.fieldLink RX8 23 "CrewPay" "workers" "[LCrewPay$Worker;", Cond.classLink RX8 27 RX0, Cond.fieldLink RX8 29 "CrewPay" "orders" "[LCrewPay$Order;", Cond.classLink RX8 33 RX6, Cond.fieldLink RX8 35 "CrewPay" "transfers" "[LCrewPay$Transfer;", Cond.fieldLink RX8 39 "CrewPay" "workerCount" "I", Cond.fieldLink RX8 43 "CrewPay" "orderCount" "I", Cond.fieldLink RX8 46 "CrewPay" "transferCount" "I", Cond.fieldLink RX8 49 "CrewPay" "floor" "I", Cond.fieldLink RX8 52 "CrewPay" "weekOfNow" "I", Cond.instantiable RX1 2, Cond.initialized RX1, Cond.instantiable RX2 2, Cond.initialized RX2, Cond.instanceMethod yX1_init, Cond.code yX1_init cX1_init 1 none]
def wsX8_init_r2 : List Cond := [Cond.methodLink RX1 1 objectInit, Cond.fieldLink RX1 7 "CrewPay$Pot" "cents" "I", Cond.fieldLink RX1 13 "CrewPay$Pot" "shortage" "I", Cond.instanceMethod yX2_init, Cond.code yX2_init cX2_init 1 none, Cond.methodLink RX2 3 objectInit, Cond.classLink RX2 9 RX3, Cond.instantiable RX3 2, Cond.initialized RX3, Cond.fieldLink RX2 14 "CrewPay$Rates" "day" "LCrewPay$Rule;", Cond.fieldLink RX2 20 "CrewPay$Rates" "night" "LCrewPay$Rule;", Cond.methodLink RX2 11 yX3_init, Cond.instanceMethod yX3_init, Cond.code yX3_init cX3_init 3 none, Cond.methodLink RX3 3 objectInit, Cond.arrayClass .int, Cond.fieldLink RX3 9 "CrewPay$Rule" "values" "[I", Cond.arrayClass .boolean, Cond.fieldLink RX3 15 "CrewPay$Rule" "told" "[Z"]
def wsX8_init : List Cond := .code yX8_init cX8_init 2 none :: ((wsX8_init_r1 ++ wsX8_init_r2) ++ wsX80 ++ wsX10 ++ wsX20 ++ wsX30)
def wsX8_potOf : List Cond := .code yX8_potOf cX8_potOf 3 (some (.object "CrewPay$Pot")) :: ([.classLink RX8 125 "java/lang/IndexOutOfBoundsException", .initialized "java/lang/IndexOutOfBoundsException", .fieldLink RX8 11 "CrewPay" "pots" "[LCrewPay$Pot;"] ++ wsX80 ++ (vx_atS RX8 129 "java/lang/IndexOutOfBoundsException" ["java/lang/RuntimeException", "java/lang/Exception"]).filter goodWord)
def wsX8_addWorker_r1 : List Cond := [Cond.classLink RX8 61 "java/lang/IllegalStateException", Cond.initialized "java/lang/IllegalStateException", Cond.fieldLink RX8 39 "CrewPay" "workerCount" "I", Cond.fieldLink RX8 23 "CrewPay" "workers" "[LCrewPay$Worker;", Cond.classLink RX8 21 RX7, Cond.instantiable RX7 8, Cond.initialized RX7, Cond.methodLink RX8 57 yX8_potOf, Cond.instanceMethod yX8_potOf, Cond.selects RX8 yX8_potOf yX8_potOf, Cond.initialized RX8, Cond.code yX8_potOf cX8_potOf 3 (some (.object "CrewPay$Pot")), Cond.classLink RX8 125 "java/lang/IndexOutOfBoundsException", Cond.initialized "java/lang/IndexOutOfBoundsException", Cond.fieldLink RX8 11 "CrewPay" "pots" "[LCrewPay$Pot;", Cond.methodLink RX8 68 yX7_init, Cond.instanceMethod yX7_init, Cond.code yX7_init cX7_init 2 none, Cond.methodLink RX7 3 objectInit, Cond.instanceMethod objectInit, Cond.code objectInit ⟨#[0xb1]⟩ 1 none, Cond.classLink RX7 9 RX3, Cond.instantiable RX3 2, Cond.initialized RX3]
def wsX8_addWorker_r2 : List Cond := [Cond.fieldLink RX7 14 "CrewPay$Worker" "rank" "LCrewPay$Rule;", Cond.fieldLink RX7 20 "CrewPay$Worker" "counting" "I", Cond.fieldLink RX7 24 "CrewPay$Worker" "reckoned" "I", Cond.fieldLink RX7 27 "CrewPay$Worker" "toTakeBack" "I", Cond.fieldLink RX7 30 "CrewPay$Worker" "everToTakeBack" "I", Cond.classLink RX7 33 RX4, Cond.fieldLink RX7 35 "CrewPay$Worker" "sheets" "[LCrewPay$Sheet;", Cond.classLink RX7 39 RX5, Cond.fieldLink RX7 41 "CrewPay$Worker" "slips" "[LCrewPay$Slip;", Cond.fieldLink RX7 45 "CrewPay$Worker" "pot" "LCrewPay$Pot;", Cond.methodLink RX7 11 yX3_init, Cond.instanceMethod yX3_init, Cond.code yX3_init cX3_init 3 none, Cond.methodLink RX3 3 objectInit, Cond.arrayClass .int, Cond.fieldLink RX3 9 "CrewPay$Rule" "values" "[I", Cond.arrayClass .boolean, Cond.fieldLink RX3 15 "CrewPay$Rule" "told" "[Z"]
def wsX8_addWorker : List Cond := .code yX8_addWorker cX8_addWorker 3 (some .int) :: ((wsX8_addWorker_r1 ++ wsX8_addWorker_r2) ++ wsX80 ++ wsX70 ++ wsX30 ++ (vx_atS RX8 65 "java/lang/IllegalStateException" ["java/lang/RuntimeException", "java/lang/Exception"]).filter goodWord ++ (vx_atS RX8 129 "java/lang/IndexOutOfBoundsException" ["java/lang/RuntimeException", "java/lang/Exception"]).filter goodWord)
def wsX8_workerOf : List Cond := .code yX8_workerOf cX8_workerOf 3 (some (.object "CrewPay$Worker")) :: ([.classLink RX8 125 "java/lang/IndexOutOfBoundsException", .initialized "java/lang/IndexOutOfBoundsException", .fieldLink RX8 23 "CrewPay" "workers" "[LCrewPay$Worker;"] ++ wsX80 ++ (vx_atS RX8 129 "java/lang/IndexOutOfBoundsException" ["java/lang/RuntimeException", "java/lang/Exception"]).filter goodWord)
def wsX8_ratesOrNull : List Cond := .code yX8_ratesOrNull cX8_ratesOrNull 2 (some (.object "CrewPay$Rates")) :: ([.fieldLink RX8 17 "CrewPay" "ratesByRank" "[LCrewPay$Rates;"] ++ wsX80)
def wsX8_ratesOf : List Cond := .code yX8_ratesOf cX8_ratesOf 3 (some (.object "CrewPay$Rates")) :: ([.classLink RX8 125 "java/lang/IndexOutOfBoundsException", .initialized "java/lang/IndexOutOfBoundsException", .methodLink RX8 206 yX8_ratesOrNull, .instanceMethod yX8_ratesOrNull, .selects RX8 yX8_ratesOrNull yX8_ratesOrNull, .initialized RX8, .code yX8_ratesOrNull cX8_ratesOrNull 2 (some (.object "CrewPay$Rates")), .fieldLink RX8 17 "CrewPay" "ratesByRank" "[LCrewPay$Rates;"] ++ wsX80 ++ (vx_atS RX8 129 "java/lang/IndexOutOfBoundsException" ["java/lang/RuntimeException", "java/lang/Exception"]).filter goodWord)
def wsX8_checkRange : List Cond := .code yX8_checkRange cX8_checkRange 3 none :: ([.classLink RX8 211 "java/lang/IllegalArgumentException", .initialized "java/lang/IllegalArgumentException"] ++ (vx_atS RX8 215 "java/lang/IllegalArgumentException" ["java/lang/RuntimeException", "java/lang/Exception"]).filter goodWord)
def wsX8_checkWeek : List Cond := .code yX8_checkWeek cX8_checkWeek 1 none :: ([.methodLink RX8 97 yX8_checkRange, .static yX8_checkRange, .initialized RX8, .code yX8_checkRange cX8_checkRange 3 none, .classLink RX8 211 "java/lang/IllegalArgumentException", .initialized "java/lang/IllegalArgumentException"] ++ (vx_atS RX8 215 "java/lang/IllegalArgumentException" ["java/lang/RuntimeException", "java/lang/Exception"]).filter goodWord)
def wsX8_setRank_r1 : List Cond := [Cond.fieldLink RX8 83 "CrewPay$Worker" "rank" "LCrewPay$Rule;", Cond.methodLink RX8 71 yX8_workerOf, Cond.instanceMethod yX8_workerOf, Cond.selects RX8 yX8_workerOf yX8_workerOf, Cond.initialized RX8, Cond.code yX8_workerOf cX8_workerOf 3 (some (.object "CrewPay$Worker")), Cond.classLink RX8 125 "java/lang/IndexOutOfBoundsException", Cond.initialized "java/lang/IndexOutOfBoundsException", Cond.fieldLink RX8 23 "CrewPay" "workers" "[LCrewPay$Worker;", Cond.methodLink RX8 75 yX8_ratesOf, Cond.instanceMethod yX8_ratesOf, Cond.selects RX8 yX8_ratesOf yX8_ratesOf, Cond.code yX8_ratesOf cX8_ratesOf 3 (some (.object "CrewPay$Rates")), Cond.methodLink RX8 206 yX8_ratesOrNull, Cond.instanceMethod yX8_ratesOrNull, Cond.selects RX8 yX8_ratesOrNull yX8_ratesOrNull, Cond.code yX8_ratesOrNull cX8_ratesOrNull 2 (some (.object "CrewPay$Rates")), Cond.fieldLink RX8 17 "CrewPay" "ratesByRank" "[LCrewPay$Rates;", Cond.methodLink RX8 79 yX8_checkWeek, Cond.static yX8_checkWeek, Cond.code yX8_checkWeek cX8_checkWeek 1 none, Cond.methodLink RX8 97 yX8_checkRange, Cond.static yX8_checkRange, Cond.code yX8_checkRange cX8_checkRange 3 none]
def wsX8_setRank_r2 : List Cond := [Cond.classLink RX8 211 "java/lang/IllegalArgumentException", Cond.initialized "java/lang/IllegalArgumentException", Cond.methodLink RX8 87 yX3_inWeek, Cond.instanceMethod yX3_inWeek, Cond.selects RX3 yX3_inWeek yX3_inWeek, Cond.initialized RX3, Cond.code yX3_inWeek cX3_inWeek 2 (some .int), Cond.fieldLink RX3 9 "CrewPay$Rule" "values" "[I", Cond.methodLink RX8 93 yX3_tell, Cond.instanceMethod yX3_tell, Cond.selects RX3 yX3_tell yX3_tell, Cond.code yX3_tell cX3_tell 4 none, Cond.fieldLink RX3 15 "CrewPay$Rule" "told" "[Z"]
def wsX8_setRank : List Cond := .code yX8_setRank cX8_setRank 6 (some .int) :: ((wsX8_setRank_r1 ++ wsX8_setRank_r2) ++ wsX70 ++ wsX80 ++ wsX30 ++ (vx_atS RX8 129 "java/lang/IndexOutOfBoundsException" ["java/lang/RuntimeException", "java/lang/Exception"]).filter goodWord ++ (vx_atS RX8 215 "java/lang/IllegalArgumentException" ["java/lang/RuntimeException", "java/lang/Exception"]).filter goodWord)
def wsX8_setRates_r1 : List Cond := [Cond.fieldLink RX8 101 "CrewPay$Rates" "day" "LCrewPay$Rule;", Cond.fieldLink RX8 104 "CrewPay$Rates" "night" "LCrewPay$Rule;", Cond.methodLink RX8 75 yX8_ratesOf, Cond.instanceMethod yX8_ratesOf, Cond.selects RX8 yX8_ratesOf yX8_ratesOf, Cond.initialized RX8, Cond.code yX8_ratesOf cX8_ratesOf 3 (some (.object "CrewPay$Rates")), Cond.classLink RX8 125 "java/lang/IndexOutOfBoundsException", Cond.initialized "java/lang/IndexOutOfBoundsException", Cond.methodLink RX8 206 yX8_ratesOrNull, Cond.instanceMethod yX8_ratesOrNull, Cond.selects RX8 yX8_ratesOrNull yX8_ratesOrNull, Cond.code yX8_ratesOrNull cX8_ratesOrNull 2 (some (.object "CrewPay$Rates")), Cond.fieldLink RX8 17 "CrewPay" "ratesByRank" "[LCrewPay$Rates;", Cond.methodLink RX8 79 yX8_checkWeek, Cond.static yX8_checkWeek, Cond.code yX8_checkWeek cX8_checkWeek 1 none, Cond.methodLink RX8 97 yX8_checkRange, Cond.static yX8_checkRange, Cond.code yX8_checkRange cX8_checkRange 3 none, Cond.classLink RX8 211 "java/lang/IllegalArgumentException", Cond.initialized "java/lang/IllegalArgumentException", Cond.methodLink RX8 87 yX3_inWeek, Cond.instanceMethod yX3_inWeek]
def wsX8_setRates_r2 : List Cond := [Cond.selects RX3 yX3_inWeek yX3_inWeek, Cond.initialized RX3, Cond.code yX3_inWeek cX3_inWeek 2 (some .int), Cond.fieldLink RX3 9 "CrewPay$Rule" "values" "[I", Cond.methodLink RX8 93 yX3_tell, Cond.instanceMethod yX3_tell, Cond.selects RX3 yX3_tell yX3_tell, Cond.code yX3_tell cX3_tell 4 none, Cond.fieldLink RX3 15 "CrewPay$Rule" "told" "[Z"]
def wsX8_setRates : List Cond := .code yX8_setRates cX8_setRates 7 (some .int) :: ((wsX8_setRates_r1 ++ wsX8_setRates_r2) ++ wsX20 ++ wsX80 ++ wsX30 ++ (vx_atS RX8 129 "java/lang/IndexOutOfBoundsException" ["java/lang/RuntimeException", "java/lang/Exception"]).filter goodWord ++ (vx_atS RX8 215 "java/lang/IllegalArgumentException" ["java/lang/RuntimeException", "java/lang/Exception"]).filter goodWord)
def wsX8_checkHours : List Cond := .code yX8_checkHours cX8_checkHours 2 none :: ([.methodLink RX8 97 yX8_checkRange, .static yX8_checkRange, .initialized RX8, .code yX8_checkRange cX8_checkRange 3 none, .classLink RX8 211 "java/lang/IllegalArgumentException", .initialized "java/lang/IllegalArgumentException"] ++ (vx_atS RX8 215 "java/lang/IllegalArgumentException" ["java/lang/RuntimeException", "java/lang/Exception"]).filter goodWord)
def wsX8_come_r1 : List Cond := [Cond.classLink RX8 114 RX4, Cond.instantiable RX4 3, Cond.initialized RX4, Cond.fieldLink RX8 122 "CrewPay$Worker" "counting" "I", Cond.methodLink RX8 71 yX8_workerOf, Cond.instanceMethod yX8_workerOf, Cond.selects RX8 yX8_workerOf yX8_workerOf, Cond.initialized RX8, Cond.code yX8_workerOf cX8_workerOf 3 (some (.object "CrewPay$Worker")), Cond.classLink RX8 125 "java/lang/IndexOutOfBoundsException", Cond.initialized "java/lang/IndexOutOfBoundsException", Cond.fieldLink RX8 23 "CrewPay" "workers" "[LCrewPay$Worker;", Cond.methodLink RX8 97 yX8_checkRange, Cond.static yX8_checkRange, Cond.code yX8_checkRange cX8_checkRange 3 none, Cond.classLink RX8 211 "java/lang/IllegalArgumentException", Cond.initialized "java/lang/IllegalArgumentException", Cond.methodLink RX8 79 yX8_checkWeek, Cond.static yX8_checkWeek, Cond.code yX8_checkWeek cX8_checkWeek 1 none, Cond.methodLink RX8 107 yX8_checkHours, Cond.static yX8_checkHours, Cond.code yX8_checkHours cX8_checkHours 2 none, Cond.methodLink RX8 110 yX7_sheet]
def wsX8_come_r2 : List Cond := [Cond.instanceMethod yX7_sheet, Cond.selects RX7 yX7_sheet yX7_sheet, Cond.initialized RX7, Cond.code yX7_sheet cX7_sheet 2 (some (.object "CrewPay$Sheet")), Cond.fieldLink RX7 35 "CrewPay$Worker" "sheets" "[LCrewPay$Sheet;", Cond.methodLink RX8 116 yX4_init, Cond.instanceMethod yX4_init, Cond.code yX4_init cX4_init 4 none, Cond.methodLink RX4 1 objectInit, Cond.instanceMethod objectInit, Cond.code objectInit ⟨#[0xb1]⟩ 1 none, Cond.fieldLink RX4 7 "CrewPay$Sheet" "week" "I", Cond.fieldLink RX4 13 "CrewPay$Sheet" "day" "I", Cond.fieldLink RX4 16 "CrewPay$Sheet" "night" "I", Cond.methodLink RX8 118 yX7_take, Cond.instanceMethod yX7_take, Cond.selects RX7 yX7_take yX7_take, Cond.code yX7_take cX7_take 3 none, Cond.fieldLink RX7 20 "CrewPay$Worker" "counting" "I", Cond.methodLink RX7 49 yX7_sheet]
def wsX8_come : List Cond := .code yX8_come cX8_come 7 (some .int) :: ((wsX8_come_r1 ++ wsX8_come_r2) ++ wsX40 ++ wsX70 ++ wsX80 ++ (vx_atS RX8 129 "java/lang/IndexOutOfBoundsException" ["java/lang/RuntimeException", "java/lang/Exception"]).filter goodWord ++ (vx_atS RX8 215 "java/lang/IllegalArgumentException" ["java/lang/RuntimeException", "java/lang/Exception"]).filter goodWord)
def wsX8_correct : List Cond := .code yX8_correct cX8_correct 7 (some .int) :: ([.classLink RX8 125 "java/lang/IndexOutOfBoundsException", .initialized "java/lang/IndexOutOfBoundsException", .fieldLink RX8 130 "CrewPay$Sheet" "day" "I", .fieldLink RX8 132 "CrewPay$Sheet" "night" "I", .methodLink RX8 71 yX8_workerOf, .instanceMethod yX8_workerOf, .selects RX8 yX8_workerOf yX8_workerOf, .initialized RX8, .code yX8_workerOf cX8_workerOf 3 (some (.object "CrewPay$Worker")), .fieldLink RX8 23 "CrewPay" "workers" "[LCrewPay$Worker;", .methodLink RX8 110 yX7_sheet, .instanceMethod yX7_sheet, .selects RX7 yX7_sheet yX7_sheet, .initialized RX7, .code yX7_sheet cX7_sheet 2 (some (.object "CrewPay$Sheet")), .fieldLink RX7 35 "CrewPay$Worker" "sheets" "[LCrewPay$Sheet;", .methodLink RX8 107 yX8_checkHours, .static yX8_checkHours, .code yX8_checkHours cX8_checkHours 2 none, .methodLink RX8 97 yX8_checkRange, .static yX8_checkRange, .code yX8_checkRange cX8_checkRange 3 none, .classLink RX8 211 "java/lang/IllegalArgumentException", .initialized "java/lang/IllegalArgumentException"] ++ wsX40 ++ wsX80 ++ wsX70 ++ (vx_atS RX8 129 "java/lang/IndexOutOfBoundsException" ["java/lang/RuntimeException", "java/lang/Exception"]).filter goodWord ++ (vx_atS RX8 215 "java/lang/IllegalArgumentException" ["java/lang/RuntimeException", "java/lang/Exception"]).filter goodWord)
def wsX8_acknowledged : List Cond := .code yX8_acknowledged cX8_acknowledged 2 (some .int) :: ([.fieldLink RX8 122 "CrewPay$Worker" "counting" "I", .methodLink RX8 71 yX8_workerOf, .instanceMethod yX8_workerOf, .selects RX8 yX8_workerOf yX8_workerOf, .initialized RX8, .code yX8_workerOf cX8_workerOf 3 (some (.object "CrewPay$Worker")), .classLink RX8 125 "java/lang/IndexOutOfBoundsException", .initialized "java/lang/IndexOutOfBoundsException", .fieldLink RX8 23 "CrewPay" "workers" "[LCrewPay$Worker;"] ++ wsX70 ++ wsX80 ++ (vx_atS RX8 129 "java/lang/IndexOutOfBoundsException" ["java/lang/RuntimeException", "java/lang/Exception"]).filter goodWord)
def wsX8_payFor : List Cond := .code yX8_payFor cX8_payFor 2 (some .int) :: ([.fieldLink RX8 130 "CrewPay$Sheet" "day" "I", .fieldLink RX8 101 "CrewPay$Rates" "day" "LCrewPay$Rule;", .fieldLink RX8 216 "CrewPay$Sheet" "week" "I", .fieldLink RX8 132 "CrewPay$Sheet" "night" "I", .fieldLink RX8 104 "CrewPay$Rates" "night" "LCrewPay$Rule;", .methodLink RX8 87 yX3_inWeek, .instanceMethod yX3_inWeek, .selects RX3 yX3_inWeek yX3_inWeek, .initialized RX3, .code yX3_inWeek cX3_inWeek 2 (some .int), .fieldLink RX3 9 "CrewPay$Rule" "values" "[I"] ++ wsX40 ++ wsX20 ++ wsX30)
def wsX8_dueBetween_r1 : List Cond := [Cond.fieldLink RX8 122 "CrewPay$Worker" "counting" "I", Cond.fieldLink RX8 216 "CrewPay$Sheet" "week" "I", Cond.fieldLink RX8 83 "CrewPay$Worker" "rank" "LCrewPay$Rule;", Cond.methodLink RX8 110 yX7_sheet, Cond.instanceMethod yX7_sheet, Cond.selects RX7 yX7_sheet yX7_sheet, Cond.initialized RX7, Cond.code yX7_sheet cX7_sheet 2 (some (.object "CrewPay$Sheet")), Cond.fieldLink RX7 35 "CrewPay$Worker" "sheets" "[LCrewPay$Sheet;", Cond.methodLink RX8 87 yX3_inWeek, Cond.instanceMethod yX3_inWeek, Cond.selects RX3 yX3_inWeek yX3_inWeek, Cond.initialized RX3, Cond.code yX3_inWeek cX3_inWeek 2 (some .int), Cond.fieldLink RX3 9 "CrewPay$Rule" "values" "[I", Cond.methodLink RX8 206 yX8_ratesOrNull, Cond.instanceMethod yX8_ratesOrNull, Cond.selects RX8 yX8_ratesOrNull yX8_ratesOrNull, Cond.initialized RX8, Cond.code yX8_ratesOrNull cX8_ratesOrNull 2 (some (.object "CrewPay$Rates")), Cond.fieldLink RX8 17 "CrewPay" "ratesByRank" "[LCrewPay$Rates;", Cond.methodLink RX8 219 yX8_payFor, Cond.static yX8_payFor, Cond.code yX8_payFor cX8_payFor 2 (some .int)]
def wsX8_dueBetween_r2 : List Cond := [Cond.fieldLink RX8 130 "CrewPay$Sheet" "day" "I", Cond.fieldLink RX8 101 "CrewPay$Rates" "day" "LCrewPay$Rule;", Cond.fieldLink RX8 132 "CrewPay$Sheet" "night" "I", Cond.fieldLink RX8 104 "CrewPay$Rates" "night" "LCrewPay$Rule;"]
def wsX8_dueBetween : List Cond := .code yX8_dueBetween cX8_dueBetween 7 (some .int) :: ((wsX8_dueBetween_r1 ++ wsX8_dueBetween_r2) ++ wsX70 ++ wsX40 ++ wsX30 ++ wsX80 ++ wsX20)
def wsX8_due_r1 : List Cond := [Cond.methodLink RX8 71 yX8_workerOf, Cond.instanceMethod yX8_workerOf, Cond.selects RX8 yX8_workerOf yX8_workerOf, Cond.initialized RX8, Cond.code yX8_workerOf cX8_workerOf 3 (some (.object "CrewPay$Worker")), Cond.classLink RX8 125 "java/lang/IndexOutOfBoundsException", Cond.initialized "java/lang/IndexOutOfBoundsException", Cond.fieldLink RX8 23 "CrewPay" "workers" "[LCrewPay$Worker;", Cond.methodLink RX8 79 yX8_checkWeek, Cond.static yX8_checkWeek, Cond.code yX8_checkWeek cX8_checkWeek 1 none, Cond.methodLink RX8 97 yX8_checkRange, Cond.static yX8_checkRange, Cond.code yX8_checkRange cX8_checkRange 3 none, Cond.classLink RX8 211 "java/lang/IllegalArgumentException", Cond.initialized "java/lang/IllegalArgumentException", Cond.methodLink RX8 134 yX8_dueBetween, Cond.instanceMethod yX8_dueBetween, Cond.selects RX8 yX8_dueBetween yX8_dueBetween, Cond.code yX8_dueBetween cX8_dueBetween 7 (some .int), Cond.fieldLink RX8 122 "CrewPay$Worker" "counting" "I", Cond.fieldLink RX8 216 "CrewPay$Sheet" "week" "I", Cond.fieldLink RX8 83 "CrewPay$Worker" "rank" "LCrewPay$Rule;", Cond.methodLink RX8 110 yX7_sheet]
def wsX8_due_r2 : List Cond := [Cond.instanceMethod yX7_sheet, Cond.selects RX7 yX7_sheet yX7_sheet, Cond.initialized RX7, Cond.code yX7_sheet cX7_sheet 2 (some (.object "CrewPay$Sheet")), Cond.fieldLink RX7 35 "CrewPay$Worker" "sheets" "[LCrewPay$Sheet;", Cond.methodLink RX8 87 yX3_inWeek, Cond.instanceMethod yX3_inWeek, Cond.selects RX3 yX3_inWeek yX3_inWeek, Cond.initialized RX3, Cond.code yX3_inWeek cX3_inWeek 2 (some .int), Cond.fieldLink RX3 9 "CrewPay$Rule" "values" "[I", Cond.methodLink RX8 206 yX8_ratesOrNull, Cond.instanceMethod yX8_ratesOrNull, Cond.selects RX8 yX8_ratesOrNull yX8_ratesOrNull, Cond.code yX8_ratesOrNull cX8_ratesOrNull 2 (some (.object "CrewPay$Rates")), Cond.fieldLink RX8 17 "CrewPay" "ratesByRank" "[LCrewPay$Rates;", Cond.methodLink RX8 219 yX8_payFor, Cond.static yX8_payFor, Cond.code yX8_payFor cX8_payFor 2 (some .int), Cond.fieldLink RX8 130 "CrewPay$Sheet" "day" "I", Cond.fieldLink RX8 101 "CrewPay$Rates" "day" "LCrewPay$Rule;", Cond.fieldLink RX8 132 "CrewPay$Sheet" "night" "I", Cond.fieldLink RX8 104 "CrewPay$Rates" "night" "LCrewPay$Rule;"]
def wsX8_due : List Cond := .code yX8_due cX8_due 4 (some .int) :: ((wsX8_due_r1 ++ wsX8_due_r2) ++ wsX80 ++ wsX70 ++ wsX40 ++ wsX30 ++ wsX20 ++ (vx_atS RX8 129 "java/lang/IndexOutOfBoundsException" ["java/lang/RuntimeException", "java/lang/Exception"]).filter goodWord ++ (vx_atS RX8 215 "java/lang/IllegalArgumentException" ["java/lang/RuntimeException", "java/lang/Exception"]).filter goodWord)
def wsX8_order_r1 : List Cond := [Cond.classLink RX8 61 "java/lang/IllegalStateException", Cond.initialized "java/lang/IllegalStateException", Cond.constant RX8 138 (10000000), Cond.constant RX8 139 (1000000), Cond.fieldLink RX8 43 "CrewPay" "orderCount" "I", Cond.fieldLink RX8 29 "CrewPay" "orders" "[LCrewPay$Order;", Cond.classLink RX8 27 RX0, Cond.instantiable RX0 4, Cond.initialized RX0, Cond.methodLink RX8 71 yX8_workerOf, Cond.instanceMethod yX8_workerOf, Cond.selects RX8 yX8_workerOf yX8_workerOf, Cond.initialized RX8, Cond.code yX8_workerOf cX8_workerOf 3 (some (.object "CrewPay$Worker")), Cond.classLink RX8 125 "java/lang/IndexOutOfBoundsException", Cond.initialized "java/lang/IndexOutOfBoundsException", Cond.fieldLink RX8 23 "CrewPay" "workers" "[LCrewPay$Worker;", Cond.methodLink RX8 97 yX8_checkRange, Cond.static yX8_checkRange, Cond.code yX8_checkRange cX8_checkRange 3 none, Cond.classLink RX8 211 "java/lang/IllegalArgumentException", Cond.initialized "java/lang/IllegalArgumentException", Cond.methodLink RX8 142 yX0_init, Cond.instanceMethod yX0_init]
def wsX8_order_r2 : List Cond := [Cond.code yX0_init cX0_init 5 none, Cond.methodLink RX0 1 objectInit, Cond.instanceMethod objectInit, Cond.code objectInit ⟨#[0xb1]⟩ 1 none, Cond.fieldLink RX0 7 "CrewPay$Order" "worker" "LCrewPay$Worker;", Cond.fieldLink RX0 13 "CrewPay$Order" "grade" "I", Cond.fieldLink RX0 17 "CrewPay$Order" "left" "I", Cond.fieldLink RX0 20 "CrewPay$Order" "mostOfSlip" "I"]
def wsX8_order : List Cond := .code yX8_order cX8_order 6 (some .int) :: ((wsX8_order_r1 ++ wsX8_order_r2) ++ wsX80 ++ wsX00 ++ (vx_atS RX8 65 "java/lang/IllegalStateException" ["java/lang/RuntimeException", "java/lang/Exception"]).filter goodWord ++ (vx_atS RX8 129 "java/lang/IndexOutOfBoundsException" ["java/lang/RuntimeException", "java/lang/Exception"]).filter goodWord ++ (vx_atS RX8 215 "java/lang/IllegalArgumentException" ["java/lang/RuntimeException", "java/lang/Exception"]).filter goodWord)
def wsX8_left : List Cond := .code yX8_left cX8_left 3 (some .int) :: ([.classLink RX8 125 "java/lang/IndexOutOfBoundsException", .initialized "java/lang/IndexOutOfBoundsException", .fieldLink RX8 29 "CrewPay" "orders" "[LCrewPay$Order;", .fieldLink RX8 147 "CrewPay$Order" "left" "I"] ++ wsX80 ++ wsX00 ++ (vx_atS RX8 129 "java/lang/IndexOutOfBoundsException" ["java/lang/RuntimeException", "java/lang/Exception"]).filter goodWord)
def wsX8_setFloor : List Cond := .code yX8_setFloor cX8_setFloor 3 (some .int) :: ([.constant RX8 138 (10000000), .fieldLink RX8 49 "CrewPay" "floor" "I", .methodLink RX8 97 yX8_checkRange, .static yX8_checkRange, .initialized RX8, .code yX8_checkRange cX8_checkRange 3 none, .classLink RX8 211 "java/lang/IllegalArgumentException", .initialized "java/lang/IllegalArgumentException"] ++ wsX80 ++ (vx_atS RX8 215 "java/lang/IllegalArgumentException" ["java/lang/RuntimeException", "java/lang/Exception"]).filter goodWord)
def wsX8_fill_r1 : List Cond := [Cond.classLink RX8 61 "java/lang/IllegalStateException", Cond.initialized "java/lang/IllegalStateException", Cond.constant RX8 138 (10000000), Cond.fieldLink RX8 46 "CrewPay" "transferCount" "I", Cond.fieldLink RX8 35 "CrewPay" "transfers" "[LCrewPay$Transfer;", Cond.classLink RX8 33 RX6, Cond.instantiable RX6 3, Cond.initialized RX6, Cond.methodLink RX8 57 yX8_potOf, Cond.instanceMethod yX8_potOf, Cond.selects RX8 yX8_potOf yX8_potOf, Cond.initialized RX8, Cond.code yX8_potOf cX8_potOf 3 (some (.object "CrewPay$Pot")), Cond.classLink RX8 125 "java/lang/IndexOutOfBoundsException", Cond.initialized "java/lang/IndexOutOfBoundsException", Cond.fieldLink RX8 11 "CrewPay" "pots" "[LCrewPay$Pot;", Cond.methodLink RX8 97 yX8_checkRange, Cond.static yX8_checkRange, Cond.code yX8_checkRange cX8_checkRange 3 none, Cond.classLink RX8 211 "java/lang/IllegalArgumentException", Cond.initialized "java/lang/IllegalArgumentException", Cond.methodLink RX8 152 yX6_init, Cond.instanceMethod yX6_init, Cond.code yX6_init cX6_init 3 none]
def wsX8_fill_r2 : List Cond := [Cond.methodLink RX6 1 objectInit, Cond.instanceMethod objectInit, Cond.code objectInit ⟨#[0xb1]⟩ 1 none, Cond.fieldLink RX6 7 "CrewPay$Transfer" "bounced" "Z", Cond.fieldLink RX6 13 "CrewPay$Transfer" "pot" "LCrewPay$Pot;", Cond.fieldLink RX6 17 "CrewPay$Transfer" "amount" "I", Cond.methodLink RX8 155 yX1_receive, Cond.instanceMethod yX1_receive, Cond.selects RX1 yX1_receive yX1_receive, Cond.initialized RX1, Cond.code yX1_receive cX1_receive 3 none, Cond.fieldLink RX1 13 "CrewPay$Pot" "shortage" "I", Cond.methodLink RX1 16 Lib.Math.min.name, Cond.static Lib.Math.min.name, Cond.initialized "java/lang/Math", Cond.code Lib.Math.min.name Lib.Math.min.code 2 (some .int), Cond.fieldLink RX1 7 "CrewPay$Pot" "cents" "I"]
def wsX8_fill : List Cond := .code yX8_fill cX8_fill 4 (some .int) :: ((wsX8_fill_r1 ++ wsX8_fill_r2) ++ wsX80 ++ wsX60 ++ wsX10 ++ (vx_atS RX8 65 "java/lang/IllegalStateException" ["java/lang/RuntimeException", "java/lang/Exception"]).filter goodWord ++ (vx_atS RX8 129 "java/lang/IndexOutOfBoundsException" ["java/lang/RuntimeException", "java/lang/Exception"]).filter goodWord ++ (vx_atS RX8 215 "java/lang/IllegalArgumentException" ["java/lang/RuntimeException", "java/lang/Exception"]).filter goodWord)
def wsX8_bounce : List Cond := .code yX8_bounce cX8_bounce 3 (some .int) :: ([.classLink RX8 125 "java/lang/IndexOutOfBoundsException", .initialized "java/lang/IndexOutOfBoundsException", .classLink RX8 61 "java/lang/IllegalStateException", .initialized "java/lang/IllegalStateException", .fieldLink RX8 35 "CrewPay" "transfers" "[LCrewPay$Transfer;", .fieldLink RX8 160 "CrewPay$Transfer" "bounced" "Z", .fieldLink RX8 166 "CrewPay$Transfer" "pot" "LCrewPay$Pot;", .fieldLink RX8 170 "CrewPay$Transfer" "amount" "I", .fieldLink RX8 176 "CrewPay$Pot" "shortage" "I", .methodLink RX8 173 yX1_lose, .instanceMethod yX1_lose, .selects RX1 yX1_lose yX1_lose, .initialized RX1, .code yX1_lose cX1_lose 3 none, .fieldLink RX1 7 "CrewPay$Pot" "cents" "I", .methodLink RX1 16 Lib.Math.min.name, .static Lib.Math.min.name, .initialized "java/lang/Math", .code Lib.Math.min.name Lib.Math.min.code 2 (some .int), .fieldLink RX1 13 "CrewPay$Pot" "shortage" "I"] ++ wsX80 ++ wsX60 ++ wsX10 ++ (vx_atS RX8 129 "java/lang/IndexOutOfBoundsException" ["java/lang/RuntimeException", "java/lang/Exception"]).filter goodWord ++ (vx_atS RX8 65 "java/lang/IllegalStateException" ["java/lang/RuntimeException", "java/lang/Exception"]).filter goodWord)
def wsX8_pot : List Cond := .code yX8_pot cX8_pot 2 (some .int) :: ([.fieldLink RX8 179 "CrewPay$Pot" "cents" "I", .methodLink RX8 57 yX8_potOf, .instanceMethod yX8_potOf, .selects RX8 yX8_potOf yX8_potOf, .initialized RX8, .code yX8_potOf cX8_potOf 3 (some (.object "CrewPay$Pot")), .classLink RX8 125 "java/lang/IndexOutOfBoundsException", .initialized "java/lang/IndexOutOfBoundsException", .fieldLink RX8 11 "CrewPay" "pots" "[LCrewPay$Pot;"] ++ wsX10 ++ wsX80 ++ (vx_atS RX8 129 "java/lang/IndexOutOfBoundsException" ["java/lang/RuntimeException", "java/lang/Exception"]).filter goodWord)
def wsX8_shortage : List Cond := .code yX8_shortage cX8_shortage 2 (some .int) :: ([.fieldLink RX8 176 "CrewPay$Pot" "shortage" "I", .methodLink RX8 57 yX8_potOf, .instanceMethod yX8_potOf, .selects RX8 yX8_potOf yX8_potOf, .initialized RX8, .code yX8_potOf cX8_potOf 3 (some (.object "CrewPay$Pot")), .classLink RX8 125 "java/lang/IndexOutOfBoundsException", .initialized "java/lang/IndexOutOfBoundsException", .fieldLink RX8 11 "CrewPay" "pots" "[LCrewPay$Pot;"] ++ wsX10 ++ wsX80 ++ (vx_atS RX8 129 "java/lang/IndexOutOfBoundsException" ["java/lang/RuntimeException", "java/lang/Exception"]).filter goodWord)
def wsX8_claimOf_r1 : List Cond := [Cond.fieldLink RX8 52 "CrewPay" "weekOfNow" "I", Cond.fieldLink RX8 223 "CrewPay$Worker" "reckoned" "I", Cond.methodLink RX8 134 yX8_dueBetween, Cond.instanceMethod yX8_dueBetween, Cond.selects RX8 yX8_dueBetween yX8_dueBetween, Cond.initialized RX8, Cond.code yX8_dueBetween cX8_dueBetween 7 (some .int), Cond.fieldLink RX8 122 "CrewPay$Worker" "counting" "I", Cond.fieldLink RX8 216 "CrewPay$Sheet" "week" "I", Cond.fieldLink RX8 83 "CrewPay$Worker" "rank" "LCrewPay$Rule;", Cond.methodLink RX8 110 yX7_sheet, Cond.instanceMethod yX7_sheet, Cond.selects RX7 yX7_sheet yX7_sheet, Cond.initialized RX7, Cond.code yX7_sheet cX7_sheet 2 (some (.object "CrewPay$Sheet")), Cond.fieldLink RX7 35 "CrewPay$Worker" "sheets" "[LCrewPay$Sheet;", Cond.methodLink RX8 87 yX3_inWeek, Cond.instanceMethod yX3_inWeek, Cond.selects RX3 yX3_inWeek yX3_inWeek, Cond.initialized RX3, Cond.code yX3_inWeek cX3_inWeek 2 (some .int), Cond.fieldLink RX3 9 "CrewPay$Rule" "values" "[I", Cond.methodLink RX8 206 yX8_ratesOrNull, Cond.instanceMethod yX8_ratesOrNull]
def wsX8_claimOf_r2 : List Cond := [Cond.selects RX8 yX8_ratesOrNull yX8_ratesOrNull, Cond.code yX8_ratesOrNull cX8_ratesOrNull 2 (some (.object "CrewPay$Rates")), Cond.fieldLink RX8 17 "CrewPay" "ratesByRank" "[LCrewPay$Rates;", Cond.methodLink RX8 219 yX8_payFor, Cond.static yX8_payFor, Cond.code yX8_payFor cX8_payFor 2 (some .int), Cond.fieldLink RX8 130 "CrewPay$Sheet" "day" "I", Cond.fieldLink RX8 101 "CrewPay$Rates" "day" "LCrewPay$Rule;", Cond.fieldLink RX8 132 "CrewPay$Sheet" "night" "I", Cond.fieldLink RX8 104 "CrewPay$Rates" "night" "LCrewPay$Rule;"]
def wsX8_claimOf : List Cond := .code yX8_claimOf cX8_claimOf 2 (some .int) :: ((wsX8_claimOf_r1 ++ wsX8_claimOf_r2) ++ wsX80 ++ wsX70 ++ wsX40 ++ wsX30 ++ wsX20)
def wsX8_garnish : List Cond := .code yX8_garnish cX8_garnish 9 (some .int) :: ([.fieldLink RX8 29 "CrewPay" "orders" "[LCrewPay$Order;", .fieldLink RX8 252 "CrewPay$Order" "worker" "LCrewPay$Worker;", .fieldLink RX8 256 "CrewPay$Order" "grade" "I", .methodLink RX8 259 yX0_payOff, .instanceMethod yX0_payOff, .selects RX0 yX0_payOff yX0_payOff, .initialized RX0, .code yX0_payOff cX0_payOff 3 (some .int), .fieldLink RX0 17 "CrewPay$Order" "left" "I", .fieldLink RX0 20 "CrewPay$Order" "mostOfSlip" "I", .methodLink RX0 23 Lib.Math.min.name, .static Lib.Math.min.name, .initialized "java/lang/Math", .code Lib.Math.min.name Lib.Math.min.code 2 (some .int), .methodLink RX0 29 Lib.Math.max.name, .static Lib.Math.max.name, .code Lib.Math.max.name Lib.Math.max.code 2 (some .int)] ++ wsX80 ++ wsX00)
def wsX8_pay_r1 : List Cond := [Cond.fieldLink RX8 229 "CrewPay$Worker" "pot" "LCrewPay$Pot;", Cond.fieldLink RX8 179 "CrewPay$Pot" "cents" "I", Cond.fieldLink RX8 223 "CrewPay$Worker" "reckoned" "I", Cond.fieldLink RX8 192 "CrewPay$Worker" "toTakeBack" "I", Cond.methodLink RX8 234 Lib.Math.min.name, Cond.static Lib.Math.min.name, Cond.initialized "java/lang/Math", Cond.code Lib.Math.min.name Lib.Math.min.code 2 (some .int), Cond.fieldLink RX8 49 "CrewPay" "floor" "I", Cond.fieldLink RX8 52 "CrewPay" "weekOfNow" "I", Cond.classLink RX8 243 RX5, Cond.instantiable RX5 4, Cond.initialized RX5, Cond.methodLink RX8 239 yX8_garnish, Cond.instanceMethod yX8_garnish, Cond.selects RX8 yX8_garnish yX8_garnish, Cond.initialized RX8, Cond.code yX8_garnish cX8_garnish 9 (some .int), Cond.fieldLink RX8 29 "CrewPay" "orders" "[LCrewPay$Order;", Cond.fieldLink RX8 252 "CrewPay$Order" "worker" "LCrewPay$Worker;", Cond.fieldLink RX8 256 "CrewPay$Order" "grade" "I", Cond.methodLink RX8 259 yX0_payOff, Cond.instanceMethod yX0_payOff, Cond.selects RX0 yX0_payOff yX0_payOff]
def wsX8_pay_r2 : List Cond := [Cond.initialized RX0, Cond.code yX0_payOff cX0_payOff 3 (some .int), Cond.fieldLink RX0 17 "CrewPay$Order" "left" "I", Cond.fieldLink RX0 20 "CrewPay$Order" "mostOfSlip" "I", Cond.methodLink RX0 23 Lib.Math.min.name, Cond.methodLink RX0 29 Lib.Math.max.name, Cond.static Lib.Math.max.name, Cond.code Lib.Math.max.name Lib.Math.max.code 2 (some .int), Cond.methodLink RX8 245 yX5_init, Cond.instanceMethod yX5_init, Cond.code yX5_init cX5_init 5 none, Cond.methodLink RX5 3 objectInit, Cond.instanceMethod objectInit, Cond.code objectInit ⟨#[0xb1]⟩ 1 none, Cond.fieldLink RX5 9 "CrewPay$Slip" "gross" "I", Cond.fieldLink RX5 15 "CrewPay$Slip" "takenBack" "I", Cond.fieldLink RX5 18 "CrewPay$Slip" "garnished" "I", Cond.fieldLink RX5 21 "CrewPay$Slip" "paidOut" "I", Cond.methodLink RX8 248 yX7_keepSlip, Cond.instanceMethod yX7_keepSlip, Cond.selects RX7 yX7_keepSlip yX7_keepSlip, Cond.initialized RX7, Cond.code yX7_keepSlip cX7_keepSlip 3 none, Cond.fieldLink RX7 41 "CrewPay$Worker" "slips" "[LCrewPay$Slip;"]
def wsX8_pay : List Cond := .code yX8_pay cX8_pay 6 none :: ((wsX8_pay_r1 ++ wsX8_pay_r2) ++ wsX70 ++ wsX10 ++ wsX80 ++ wsX50 ++ wsX00)
def wsX8_settle_r1 : List Cond := [Cond.fieldLink RX8 229 "CrewPay$Worker" "pot" "LCrewPay$Pot;", Cond.fieldLink RX8 179 "CrewPay$Pot" "cents" "I", Cond.methodLink RX8 195 yX8_claimOf, Cond.instanceMethod yX8_claimOf, Cond.selects RX8 yX8_claimOf yX8_claimOf, Cond.initialized RX8, Cond.code yX8_claimOf cX8_claimOf 2 (some .int), Cond.fieldLink RX8 52 "CrewPay" "weekOfNow" "I", Cond.fieldLink RX8 223 "CrewPay$Worker" "reckoned" "I", Cond.methodLink RX8 134 yX8_dueBetween, Cond.instanceMethod yX8_dueBetween, Cond.selects RX8 yX8_dueBetween yX8_dueBetween, Cond.code yX8_dueBetween cX8_dueBetween 7 (some .int), Cond.fieldLink RX8 122 "CrewPay$Worker" "counting" "I", Cond.fieldLink RX8 216 "CrewPay$Sheet" "week" "I", Cond.fieldLink RX8 83 "CrewPay$Worker" "rank" "LCrewPay$Rule;", Cond.methodLink RX8 110 yX7_sheet, Cond.instanceMethod yX7_sheet, Cond.selects RX7 yX7_sheet yX7_sheet, Cond.initialized RX7, Cond.code yX7_sheet cX7_sheet 2 (some (.object "CrewPay$Sheet")), Cond.fieldLink RX7 35 "CrewPay$Worker" "sheets" "[LCrewPay$Sheet;", Cond.methodLink RX8 87 yX3_inWeek, Cond.instanceMethod yX3_inWeek]
def wsX8_settle_r2 : List Cond := [Cond.selects RX3 yX3_inWeek yX3_inWeek, Cond.initialized RX3, Cond.code yX3_inWeek cX3_inWeek 2 (some .int), Cond.fieldLink RX3 9 "CrewPay$Rule" "values" "[I", Cond.methodLink RX8 206 yX8_ratesOrNull, Cond.instanceMethod yX8_ratesOrNull, Cond.selects RX8 yX8_ratesOrNull yX8_ratesOrNull, Cond.code yX8_ratesOrNull cX8_ratesOrNull 2 (some (.object "CrewPay$Rates")), Cond.fieldLink RX8 17 "CrewPay" "ratesByRank" "[LCrewPay$Rates;", Cond.methodLink RX8 219 yX8_payFor, Cond.static yX8_payFor, Cond.code yX8_payFor cX8_payFor 2 (some .int), Cond.fieldLink RX8 130 "CrewPay$Sheet" "day" "I", Cond.fieldLink RX8 101 "CrewPay$Rates" "day" "LCrewPay$Rule;", Cond.fieldLink RX8 132 "CrewPay$Sheet" "night" "I", Cond.fieldLink RX8 104 "CrewPay$Rates" "night" "LCrewPay$Rule;", Cond.methodLink RX8 226 yX7_owe, Cond.instanceMethod yX7_owe, Cond.selects RX7 yX7_owe yX7_owe, Cond.code yX7_owe cX7_owe 2 none, Cond.fieldLink RX7 27 "CrewPay$Worker" "toTakeBack" "I", Cond.fieldLink RX7 30 "CrewPay$Worker" "everToTakeBack" "I", Cond.fieldLink RX7 24 "CrewPay$Worker" "reckoned" "I", Cond.methodLink RX8 230 yX8_pay]
def wsX8_settle_r3 : List Cond := [Cond.instanceMethod yX8_pay, Cond.selects RX8 yX8_pay yX8_pay, Cond.code yX8_pay cX8_pay 6 none, Cond.fieldLink RX8 192 "CrewPay$Worker" "toTakeBack" "I", Cond.methodLink RX8 234 Lib.Math.min.name, Cond.static Lib.Math.min.name, Cond.initialized "java/lang/Math", Cond.code Lib.Math.min.name Lib.Math.min.code 2 (some .int), Cond.fieldLink RX8 49 "CrewPay" "floor" "I", Cond.classLink RX8 243 RX5, Cond.instantiable RX5 4, Cond.initialized RX5, Cond.methodLink RX8 239 yX8_garnish, Cond.instanceMethod yX8_garnish, Cond.selects RX8 yX8_garnish yX8_garnish, Cond.code yX8_garnish cX8_garnish 9 (some .int), Cond.fieldLink RX8 29 "CrewPay" "orders" "[LCrewPay$Order;", Cond.fieldLink RX8 252 "CrewPay$Order" "worker" "LCrewPay$Worker;", Cond.fieldLink RX8 256 "CrewPay$Order" "grade" "I", Cond.methodLink RX8 259 yX0_payOff, Cond.instanceMethod yX0_payOff, Cond.selects RX0 yX0_payOff yX0_payOff, Cond.initialized RX0, Cond.code yX0_payOff cX0_payOff 3 (some .int)]
def wsX8_settle_r4 : List Cond := [Cond.fieldLink RX0 17 "CrewPay$Order" "left" "I", Cond.fieldLink RX0 20 "CrewPay$Order" "mostOfSlip" "I", Cond.methodLink RX0 23 Lib.Math.min.name, Cond.methodLink RX0 29 Lib.Math.max.name, Cond.static Lib.Math.max.name, Cond.code Lib.Math.max.name Lib.Math.max.code 2 (some .int), Cond.methodLink RX8 245 yX5_init, Cond.instanceMethod yX5_init, Cond.code yX5_init cX5_init 5 none, Cond.methodLink RX5 3 objectInit, Cond.instanceMethod objectInit, Cond.code objectInit ⟨#[0xb1]⟩ 1 none, Cond.fieldLink RX5 9 "CrewPay$Slip" "gross" "I", Cond.fieldLink RX5 15 "CrewPay$Slip" "takenBack" "I", Cond.fieldLink RX5 18 "CrewPay$Slip" "garnished" "I", Cond.fieldLink RX5 21 "CrewPay$Slip" "paidOut" "I", Cond.methodLink RX8 248 yX7_keepSlip, Cond.instanceMethod yX7_keepSlip, Cond.selects RX7 yX7_keepSlip yX7_keepSlip, Cond.code yX7_keepSlip cX7_keepSlip 3 none, Cond.fieldLink RX7 41 "CrewPay$Worker" "slips" "[LCrewPay$Slip;"]
def wsX8_settle : List Cond := .code yX8_settle cX8_settle 3 (some .boolean) :: ((wsX8_settle_r1 ++ (wsX8_settle_r2 ++ (wsX8_settle_r3 ++ wsX8_settle_r4))) ++ wsX70 ++ wsX10 ++ wsX80 ++ wsX40 ++ wsX30 ++ wsX20 ++ wsX50 ++ wsX00)
def wsX8_close_r1 : List Cond := [Cond.classLink RX8 61 "java/lang/IllegalStateException", Cond.initialized "java/lang/IllegalStateException", Cond.fieldLink RX8 52 "CrewPay" "weekOfNow" "I", Cond.fieldLink RX8 23 "CrewPay" "workers" "[LCrewPay$Worker;", Cond.methodLink RX8 184 yX8_settle, Cond.instanceMethod yX8_settle, Cond.selects RX8 yX8_settle yX8_settle, Cond.initialized RX8, Cond.code yX8_settle cX8_settle 3 (some .boolean), Cond.fieldLink RX8 229 "CrewPay$Worker" "pot" "LCrewPay$Pot;", Cond.fieldLink RX8 179 "CrewPay$Pot" "cents" "I", Cond.methodLink RX8 195 yX8_claimOf, Cond.instanceMethod yX8_claimOf, Cond.selects RX8 yX8_claimOf yX8_claimOf, Cond.code yX8_claimOf cX8_claimOf 2 (some .int), Cond.fieldLink RX8 223 "CrewPay$Worker" "reckoned" "I", Cond.methodLink RX8 134 yX8_dueBetween, Cond.instanceMethod yX8_dueBetween, Cond.selects RX8 yX8_dueBetween yX8_dueBetween, Cond.code yX8_dueBetween cX8_dueBetween 7 (some .int), Cond.fieldLink RX8 122 "CrewPay$Worker" "counting" "I", Cond.fieldLink RX8 216 "CrewPay$Sheet" "week" "I", Cond.fieldLink RX8 83 "CrewPay$Worker" "rank" "LCrewPay$Rule;", Cond.methodLink RX8 110 yX7_sheet]
def wsX8_close_r2 : List Cond := [Cond.instanceMethod yX7_sheet, Cond.selects RX7 yX7_sheet yX7_sheet, Cond.initialized RX7, Cond.code yX7_sheet cX7_sheet 2 (some (.object "CrewPay$Sheet")), Cond.fieldLink RX7 35 "CrewPay$Worker" "sheets" "[LCrewPay$Sheet;", Cond.methodLink RX8 87 yX3_inWeek, Cond.instanceMethod yX3_inWeek, Cond.selects RX3 yX3_inWeek yX3_inWeek, Cond.initialized RX3, Cond.code yX3_inWeek cX3_inWeek 2 (some .int), Cond.fieldLink RX3 9 "CrewPay$Rule" "values" "[I", Cond.methodLink RX8 206 yX8_ratesOrNull, Cond.instanceMethod yX8_ratesOrNull, Cond.selects RX8 yX8_ratesOrNull yX8_ratesOrNull, Cond.code yX8_ratesOrNull cX8_ratesOrNull 2 (some (.object "CrewPay$Rates")), Cond.fieldLink RX8 17 "CrewPay" "ratesByRank" "[LCrewPay$Rates;", Cond.methodLink RX8 219 yX8_payFor, Cond.static yX8_payFor, Cond.code yX8_payFor cX8_payFor 2 (some .int), Cond.fieldLink RX8 130 "CrewPay$Sheet" "day" "I", Cond.fieldLink RX8 101 "CrewPay$Rates" "day" "LCrewPay$Rule;", Cond.fieldLink RX8 132 "CrewPay$Sheet" "night" "I", Cond.fieldLink RX8 104 "CrewPay$Rates" "night" "LCrewPay$Rule;", Cond.methodLink RX8 226 yX7_owe]
def wsX8_close_r3 : List Cond := [Cond.instanceMethod yX7_owe, Cond.selects RX7 yX7_owe yX7_owe, Cond.code yX7_owe cX7_owe 2 none, Cond.fieldLink RX7 27 "CrewPay$Worker" "toTakeBack" "I", Cond.fieldLink RX7 30 "CrewPay$Worker" "everToTakeBack" "I", Cond.fieldLink RX7 24 "CrewPay$Worker" "reckoned" "I", Cond.methodLink RX8 230 yX8_pay, Cond.instanceMethod yX8_pay, Cond.selects RX8 yX8_pay yX8_pay, Cond.code yX8_pay cX8_pay 6 none, Cond.fieldLink RX8 192 "CrewPay$Worker" "toTakeBack" "I", Cond.methodLink RX8 234 Lib.Math.min.name, Cond.static Lib.Math.min.name, Cond.initialized "java/lang/Math", Cond.code Lib.Math.min.name Lib.Math.min.code 2 (some .int), Cond.fieldLink RX8 49 "CrewPay" "floor" "I", Cond.classLink RX8 243 RX5, Cond.instantiable RX5 4, Cond.initialized RX5, Cond.methodLink RX8 239 yX8_garnish, Cond.instanceMethod yX8_garnish, Cond.selects RX8 yX8_garnish yX8_garnish, Cond.code yX8_garnish cX8_garnish 9 (some .int), Cond.fieldLink RX8 29 "CrewPay" "orders" "[LCrewPay$Order;"]
def wsX8_close_r4 : List Cond := [Cond.fieldLink RX8 252 "CrewPay$Order" "worker" "LCrewPay$Worker;", Cond.fieldLink RX8 256 "CrewPay$Order" "grade" "I", Cond.methodLink RX8 259 yX0_payOff, Cond.instanceMethod yX0_payOff, Cond.selects RX0 yX0_payOff yX0_payOff, Cond.initialized RX0, Cond.code yX0_payOff cX0_payOff 3 (some .int), Cond.fieldLink RX0 17 "CrewPay$Order" "left" "I", Cond.fieldLink RX0 20 "CrewPay$Order" "mostOfSlip" "I", Cond.methodLink RX0 23 Lib.Math.min.name, Cond.methodLink RX0 29 Lib.Math.max.name, Cond.static Lib.Math.max.name, Cond.code Lib.Math.max.name Lib.Math.max.code 2 (some .int), Cond.methodLink RX8 245 yX5_init, Cond.instanceMethod yX5_init, Cond.code yX5_init cX5_init 5 none, Cond.methodLink RX5 3 objectInit, Cond.instanceMethod objectInit, Cond.code objectInit ⟨#[0xb1]⟩ 1 none, Cond.fieldLink RX5 9 "CrewPay$Slip" "gross" "I", Cond.fieldLink RX5 15 "CrewPay$Slip" "takenBack" "I", Cond.fieldLink RX5 18 "CrewPay$Slip" "garnished" "I", Cond.fieldLink RX5 21 "CrewPay$Slip" "paidOut" "I", Cond.methodLink RX8 248 yX7_keepSlip]
def wsX8_close_r5 : List Cond := [Cond.instanceMethod yX7_keepSlip, Cond.selects RX7 yX7_keepSlip yX7_keepSlip, Cond.code yX7_keepSlip cX7_keepSlip 3 none, Cond.fieldLink RX7 41 "CrewPay$Worker" "slips" "[LCrewPay$Slip;"]
def wsX8_close : List Cond := .code yX8_close cX8_close 6 (some .int) :: ((wsX8_close_r1 ++ (wsX8_close_r2 ++ (wsX8_close_r3 ++ (wsX8_close_r4 ++ wsX8_close_r5)))) ++ wsX80 ++ wsX70 ++ wsX10 ++ wsX40 ++ wsX30 ++ wsX20 ++ wsX50 ++ wsX00 ++ (vx_atS RX8 65 "java/lang/IllegalStateException" ["java/lang/RuntimeException", "java/lang/Exception"]).filter goodWord)
def wsX8_week : List Cond := .code yX8_week cX8_week 1 (some .int) :: ([.fieldLink RX8 52 "CrewPay" "weekOfNow" "I"] ++ wsX80)
def wsX8_slip_r1 : List Cond := [Cond.methodLink RX8 71 yX8_workerOf, Cond.instanceMethod yX8_workerOf, Cond.selects RX8 yX8_workerOf yX8_workerOf, Cond.initialized RX8, Cond.code yX8_workerOf cX8_workerOf 3 (some (.object "CrewPay$Worker")), Cond.classLink RX8 125 "java/lang/IndexOutOfBoundsException", Cond.initialized "java/lang/IndexOutOfBoundsException", Cond.fieldLink RX8 23 "CrewPay" "workers" "[LCrewPay$Worker;", Cond.methodLink RX8 79 yX8_checkWeek, Cond.static yX8_checkWeek, Cond.code yX8_checkWeek cX8_checkWeek 1 none, Cond.methodLink RX8 97 yX8_checkRange, Cond.static yX8_checkRange, Cond.code yX8_checkRange cX8_checkRange 3 none, Cond.classLink RX8 211 "java/lang/IllegalArgumentException", Cond.initialized "java/lang/IllegalArgumentException", Cond.methodLink RX8 188 yX7_slipPart, Cond.instanceMethod yX7_slipPart, Cond.selects RX7 yX7_slipPart yX7_slipPart, Cond.initialized RX7, Cond.code yX7_slipPart cX7_slipPart 4 (some .int), Cond.fieldLink RX7 41 "CrewPay$Worker" "slips" "[LCrewPay$Slip;", Cond.methodLink RX7 53 yX5_part, Cond.instanceMethod yX5_part]
def wsX8_slip_r2 : List Cond := [Cond.selects RX5 yX5_part yX5_part, Cond.initialized RX5, Cond.code yX5_part cX5_part 2 (some .int), Cond.fieldLink RX5 9 "CrewPay$Slip" "gross" "I", Cond.fieldLink RX5 15 "CrewPay$Slip" "takenBack" "I", Cond.fieldLink RX5 18 "CrewPay$Slip" "garnished" "I", Cond.fieldLink RX5 21 "CrewPay$Slip" "paidOut" "I"]
def wsX8_slip : List Cond := .code yX8_slip cX8_slip 5 (some .int) :: ((wsX8_slip_r1 ++ wsX8_slip_r2) ++ wsX80 ++ wsX70 ++ wsX50 ++ (vx_atS RX8 129 "java/lang/IndexOutOfBoundsException" ["java/lang/RuntimeException", "java/lang/Exception"]).filter goodWord ++ (vx_atS RX8 215 "java/lang/IllegalArgumentException" ["java/lang/RuntimeException", "java/lang/Exception"]).filter goodWord)
def wsX8_toTakeBack : List Cond := .code yX8_toTakeBack cX8_toTakeBack 2 (some .int) :: ([.fieldLink RX8 192 "CrewPay$Worker" "toTakeBack" "I", .methodLink RX8 71 yX8_workerOf, .instanceMethod yX8_workerOf, .selects RX8 yX8_workerOf yX8_workerOf, .initialized RX8, .code yX8_workerOf cX8_workerOf 3 (some (.object "CrewPay$Worker")), .classLink RX8 125 "java/lang/IndexOutOfBoundsException", .initialized "java/lang/IndexOutOfBoundsException", .fieldLink RX8 23 "CrewPay" "workers" "[LCrewPay$Worker;"] ++ wsX70 ++ wsX80 ++ (vx_atS RX8 129 "java/lang/IndexOutOfBoundsException" ["java/lang/RuntimeException", "java/lang/Exception"]).filter goodWord)
def wsX8_claim_r1 : List Cond := [Cond.methodLink RX8 71 yX8_workerOf, Cond.instanceMethod yX8_workerOf, Cond.selects RX8 yX8_workerOf yX8_workerOf, Cond.initialized RX8, Cond.code yX8_workerOf cX8_workerOf 3 (some (.object "CrewPay$Worker")), Cond.classLink RX8 125 "java/lang/IndexOutOfBoundsException", Cond.initialized "java/lang/IndexOutOfBoundsException", Cond.fieldLink RX8 23 "CrewPay" "workers" "[LCrewPay$Worker;", Cond.methodLink RX8 195 yX8_claimOf, Cond.instanceMethod yX8_claimOf, Cond.selects RX8 yX8_claimOf yX8_claimOf, Cond.code yX8_claimOf cX8_claimOf 2 (some .int), Cond.fieldLink RX8 52 "CrewPay" "weekOfNow" "I", Cond.fieldLink RX8 223 "CrewPay$Worker" "reckoned" "I", Cond.methodLink RX8 134 yX8_dueBetween, Cond.instanceMethod yX8_dueBetween, Cond.selects RX8 yX8_dueBetween yX8_dueBetween, Cond.code yX8_dueBetween cX8_dueBetween 7 (some .int), Cond.fieldLink RX8 122 "CrewPay$Worker" "counting" "I", Cond.fieldLink RX8 216 "CrewPay$Sheet" "week" "I", Cond.fieldLink RX8 83 "CrewPay$Worker" "rank" "LCrewPay$Rule;", Cond.methodLink RX8 110 yX7_sheet, Cond.instanceMethod yX7_sheet, Cond.selects RX7 yX7_sheet yX7_sheet]
def wsX8_claim_r2 : List Cond := [Cond.initialized RX7, Cond.code yX7_sheet cX7_sheet 2 (some (.object "CrewPay$Sheet")), Cond.fieldLink RX7 35 "CrewPay$Worker" "sheets" "[LCrewPay$Sheet;", Cond.methodLink RX8 87 yX3_inWeek, Cond.instanceMethod yX3_inWeek, Cond.selects RX3 yX3_inWeek yX3_inWeek, Cond.initialized RX3, Cond.code yX3_inWeek cX3_inWeek 2 (some .int), Cond.fieldLink RX3 9 "CrewPay$Rule" "values" "[I", Cond.methodLink RX8 206 yX8_ratesOrNull, Cond.instanceMethod yX8_ratesOrNull, Cond.selects RX8 yX8_ratesOrNull yX8_ratesOrNull, Cond.code yX8_ratesOrNull cX8_ratesOrNull 2 (some (.object "CrewPay$Rates")), Cond.fieldLink RX8 17 "CrewPay" "ratesByRank" "[LCrewPay$Rates;", Cond.methodLink RX8 219 yX8_payFor, Cond.static yX8_payFor, Cond.code yX8_payFor cX8_payFor 2 (some .int), Cond.fieldLink RX8 130 "CrewPay$Sheet" "day" "I", Cond.fieldLink RX8 101 "CrewPay$Rates" "day" "LCrewPay$Rule;", Cond.fieldLink RX8 132 "CrewPay$Sheet" "night" "I", Cond.fieldLink RX8 104 "CrewPay$Rates" "night" "LCrewPay$Rule;"]
def wsX8_claim : List Cond := .code yX8_claim cX8_claim 2 (some .int) :: ((wsX8_claim_r1 ++ wsX8_claim_r2) ++ wsX80 ++ wsX70 ++ wsX40 ++ wsX30 ++ wsX20 ++ (vx_atS RX8 129 "java/lang/IndexOutOfBoundsException" ["java/lang/RuntimeException", "java/lang/Exception"]).filter goodWord)
def wsX8_claimBySlips_r1 : List Cond := [Cond.fieldLink RX8 52 "CrewPay" "weekOfNow" "I", Cond.fieldLink RX8 199 "CrewPay$Worker" "everToTakeBack" "I", Cond.methodLink RX8 71 yX8_workerOf, Cond.instanceMethod yX8_workerOf, Cond.selects RX8 yX8_workerOf yX8_workerOf, Cond.initialized RX8, Cond.code yX8_workerOf cX8_workerOf 3 (some (.object "CrewPay$Worker")), Cond.classLink RX8 125 "java/lang/IndexOutOfBoundsException", Cond.initialized "java/lang/IndexOutOfBoundsException", Cond.fieldLink RX8 23 "CrewPay" "workers" "[LCrewPay$Worker;", Cond.methodLink RX8 134 yX8_dueBetween, Cond.instanceMethod yX8_dueBetween, Cond.selects RX8 yX8_dueBetween yX8_dueBetween, Cond.code yX8_dueBetween cX8_dueBetween 7 (some .int), Cond.fieldLink RX8 122 "CrewPay$Worker" "counting" "I", Cond.fieldLink RX8 216 "CrewPay$Sheet" "week" "I", Cond.fieldLink RX8 83 "CrewPay$Worker" "rank" "LCrewPay$Rule;", Cond.methodLink RX8 110 yX7_sheet, Cond.instanceMethod yX7_sheet, Cond.selects RX7 yX7_sheet yX7_sheet, Cond.initialized RX7, Cond.code yX7_sheet cX7_sheet 2 (some (.object "CrewPay$Sheet")), Cond.fieldLink RX7 35 "CrewPay$Worker" "sheets" "[LCrewPay$Sheet;", Cond.methodLink RX8 87 yX3_inWeek]
def wsX8_claimBySlips_r2 : List Cond := [Cond.instanceMethod yX3_inWeek, Cond.selects RX3 yX3_inWeek yX3_inWeek, Cond.initialized RX3, Cond.code yX3_inWeek cX3_inWeek 2 (some .int), Cond.fieldLink RX3 9 "CrewPay$Rule" "values" "[I", Cond.methodLink RX8 206 yX8_ratesOrNull, Cond.instanceMethod yX8_ratesOrNull, Cond.selects RX8 yX8_ratesOrNull yX8_ratesOrNull, Cond.code yX8_ratesOrNull cX8_ratesOrNull 2 (some (.object "CrewPay$Rates")), Cond.fieldLink RX8 17 "CrewPay" "ratesByRank" "[LCrewPay$Rates;", Cond.methodLink RX8 219 yX8_payFor, Cond.static yX8_payFor, Cond.code yX8_payFor cX8_payFor 2 (some .int), Cond.fieldLink RX8 130 "CrewPay$Sheet" "day" "I", Cond.fieldLink RX8 101 "CrewPay$Rates" "day" "LCrewPay$Rule;", Cond.fieldLink RX8 132 "CrewPay$Sheet" "night" "I", Cond.fieldLink RX8 104 "CrewPay$Rates" "night" "LCrewPay$Rule;", Cond.methodLink RX8 188 yX7_slipPart, Cond.instanceMethod yX7_slipPart, Cond.selects RX7 yX7_slipPart yX7_slipPart, Cond.code yX7_slipPart cX7_slipPart 4 (some .int), Cond.fieldLink RX7 41 "CrewPay$Worker" "slips" "[LCrewPay$Slip;", Cond.methodLink RX7 53 yX5_part, Cond.instanceMethod yX5_part]
def wsX8_claimBySlips_r3 : List Cond := [Cond.selects RX5 yX5_part yX5_part, Cond.initialized RX5, Cond.code yX5_part cX5_part 2 (some .int), Cond.fieldLink RX5 9 "CrewPay$Slip" "gross" "I", Cond.fieldLink RX5 15 "CrewPay$Slip" "takenBack" "I", Cond.fieldLink RX5 18 "CrewPay$Slip" "garnished" "I", Cond.fieldLink RX5 21 "CrewPay$Slip" "paidOut" "I"]
def wsX8_claimBySlips : List Cond := .code yX8_claimBySlips cX8_claimBySlips 5 (some .int) :: ((wsX8_claimBySlips_r1 ++ (wsX8_claimBySlips_r2 ++ wsX8_claimBySlips_r3)) ++ wsX80 ++ wsX70 ++ wsX40 ++ wsX30 ++ wsX20 ++ wsX50 ++ (vx_atS RX8 129 "java/lang/IndexOutOfBoundsException" ["java/lang/RuntimeException", "java/lang/Exception"]).filter goodWord)
def wsX9_init_r1 : List Cond := [Cond.methodLink RX9 1 objectInit, Cond.instanceMethod objectInit, Cond.code objectInit ⟨#[0xb1]⟩ 1 none, Cond.arrayClass .int, Cond.fieldLink RX9 7 "CrewPayModel" "employers" "[I", Cond.fieldLink RX9 13 "CrewPayModel" "ranks" "[I", Cond.fieldLink RX9 16 "CrewPayModel" "days" "[I", Cond.fieldLink RX9 19 "CrewPayModel" "nights" "[I", Cond.fieldLink RX9 22 "CrewPayModel" "sheetWeeks" "[I", Cond.fieldLink RX9 25 "CrewPayModel" "dayHours" "[I", Cond.fieldLink RX9 28 "CrewPayModel" "nightHours" "[I", Cond.fieldLink RX9 31 "CrewPayModel" "reckoned" "[I", Cond.fieldLink RX9 34 "CrewPayModel" "toTakeBack" "[I", Cond.fieldLink RX9 37 "CrewPayModel" "slips" "[I", Cond.fieldLink RX9 40 "CrewPayModel" "orderWorkers" "[I", Cond.fieldLink RX9 43 "CrewPayModel" "grades" "[I", Cond.fieldLink RX9 46 "CrewPayModel" "lefts" "[I", Cond.fieldLink RX9 49 "CrewPayModel" "parts" "[I", Cond.fieldLink RX9 52 "CrewPayModel" "floor" "I", Cond.fieldLink RX9 56 "CrewPayModel" "pots" "[I", Cond.fieldLink RX9 59 "CrewPayModel" "shortages" "[I", Cond.fieldLink RX9 62 "CrewPayModel" "transferTo" "[I", Cond.fieldLink RX9 65 "CrewPayModel" "transferred" "[I", Cond.arrayClass .boolean]
def wsX9_init_r2 : List Cond := [Cond.fieldLink RX9 68 "CrewPayModel" "haveBounced" "[Z"]
def wsX9_init : List Cond := .code yX9_init cX9_init 2 none :: ((wsX9_init_r1 ++ wsX9_init_r2) ++ wsX90)
def wsX9_thrown : List Cond := .code yX9_thrown cX9_thrown 1 (some .int) :: ([.fieldLink RX9 72 "CrewPayModel" "thrown" "I"] ++ wsX90)
def wsX9_holds : List Cond := .code yX9_holds cX9_holds 2 (some .boolean) :: ([.fieldLink RX9 72 "CrewPayModel" "thrown" "I"] ++ wsX90)
def wsX9_in : List Cond := .code yX9_in cX9_in 3 (some .boolean) :: ([])
def wsX9_isWorker : List Cond := .code yX9_isWorker cX9_isWorker 2 (some .boolean) :: ([.fieldLink RX9 75 "CrewPayModel" "workers" "I", .methodLink RX9 78 yX9_in, .static yX9_in, .initialized RX9, .code yX9_in cX9_in 3 (some .boolean)] ++ wsX90)
def wsX9_isWeek : List Cond := .code yX9_isWeek cX9_isWeek 1 (some .boolean) :: ([.methodLink RX9 78 yX9_in, .static yX9_in, .initialized RX9, .code yX9_in cX9_in 3 (some .boolean)])
def wsX9_areHours : List Cond := .code yX9_areHours cX9_areHours 2 (some .boolean) :: ([.methodLink RX9 78 yX9_in, .static yX9_in, .initialized RX9, .code yX9_in cX9_in 3 (some .boolean)])
def wsX9_least : List Cond := .code yX9_least cX9_least 2 (some .int) :: ([])
def wsX9_addWorker : List Cond := .code yX9_addWorker cX9_addWorker 2 (some .int) :: ([.fieldLink RX9 75 "CrewPayModel" "workers" "I", .fieldLink RX9 7 "CrewPayModel" "employers" "[I", .methodLink RX9 78 yX9_in, .static yX9_in, .initialized RX9, .code yX9_in cX9_in 3 (some .boolean), .methodLink RX9 82 yX9_holds, .instanceMethod yX9_holds, .selects RX9 yX9_holds yX9_holds, .code yX9_holds cX9_holds 2 (some .boolean), .fieldLink RX9 72 "CrewPayModel" "thrown" "I"] ++ wsX90)
def wsX9_told : List Cond := .code yX9_told cX9_told 4 (some .int) :: ([])
def wsX9_setRank : List Cond := .code yX9_setRank cX9_setRank 6 (some .int) :: ([.fieldLink RX9 13 "CrewPayModel" "ranks" "[I", .methodLink RX9 86 yX9_isWorker, .instanceMethod yX9_isWorker, .selects RX9 yX9_isWorker yX9_isWorker, .initialized RX9, .code yX9_isWorker cX9_isWorker 2 (some .boolean), .fieldLink RX9 75 "CrewPayModel" "workers" "I", .methodLink RX9 78 yX9_in, .static yX9_in, .code yX9_in cX9_in 3 (some .boolean), .methodLink RX9 89 yX9_isWeek, .static yX9_isWeek, .code yX9_isWeek cX9_isWeek 1 (some .boolean), .methodLink RX9 82 yX9_holds, .instanceMethod yX9_holds, .selects RX9 yX9_holds yX9_holds, .code yX9_holds cX9_holds 2 (some .boolean), .fieldLink RX9 72 "CrewPayModel" "thrown" "I", .methodLink RX9 92 yX9_told, .static yX9_told, .code yX9_told cX9_told 4 (some .int)] ++ wsX90)
def wsX9_setRates : List Cond := .code yX9_setRates cX9_setRates 7 (some .int) :: ([.fieldLink RX9 16 "CrewPayModel" "days" "[I", .fieldLink RX9 19 "CrewPayModel" "nights" "[I", .methodLink RX9 89 yX9_isWeek, .static yX9_isWeek, .initialized RX9, .code yX9_isWeek cX9_isWeek 1 (some .boolean), .methodLink RX9 78 yX9_in, .static yX9_in, .code yX9_in cX9_in 3 (some .boolean), .methodLink RX9 82 yX9_holds, .instanceMethod yX9_holds, .selects RX9 yX9_holds yX9_holds, .code yX9_holds cX9_holds 2 (some .boolean), .fieldLink RX9 72 "CrewPayModel" "thrown" "I", .methodLink RX9 92 yX9_told, .static yX9_told, .code yX9_told cX9_told 4 (some .int)] ++ wsX90)
def wsX9_counting : List Cond := .code yX9_counting cX9_counting 3 (some .int) :: ([.fieldLink RX9 22 "CrewPayModel" "sheetWeeks" "[I"] ++ wsX90)
def wsX9_come_r1 : List Cond := [Cond.fieldLink RX9 22 "CrewPayModel" "sheetWeeks" "[I", Cond.fieldLink RX9 25 "CrewPayModel" "dayHours" "[I", Cond.fieldLink RX9 28 "CrewPayModel" "nightHours" "[I", Cond.methodLink RX9 78 yX9_in, Cond.static yX9_in, Cond.initialized RX9, Cond.code yX9_in cX9_in 3 (some .boolean), Cond.methodLink RX9 89 yX9_isWeek, Cond.static yX9_isWeek, Cond.code yX9_isWeek cX9_isWeek 1 (some .boolean), Cond.methodLink RX9 96 yX9_areHours, Cond.static yX9_areHours, Cond.code yX9_areHours cX9_areHours 2 (some .boolean), Cond.methodLink RX9 86 yX9_isWorker, Cond.instanceMethod yX9_isWorker, Cond.selects RX9 yX9_isWorker yX9_isWorker, Cond.code yX9_isWorker cX9_isWorker 2 (some .boolean), Cond.fieldLink RX9 75 "CrewPayModel" "workers" "I", Cond.methodLink RX9 82 yX9_holds, Cond.instanceMethod yX9_holds, Cond.selects RX9 yX9_holds yX9_holds, Cond.code yX9_holds cX9_holds 2 (some .boolean), Cond.fieldLink RX9 72 "CrewPayModel" "thrown" "I", Cond.methodLink RX9 100 yX9_counting]
def wsX9_come_r2 : List Cond := [Cond.instanceMethod yX9_counting, Cond.selects RX9 yX9_counting yX9_counting, Cond.code yX9_counting cX9_counting 3 (some .int)]
def wsX9_come : List Cond := .code yX9_come cX9_come 8 (some .int) :: ((wsX9_come_r1 ++ wsX9_come_r2) ++ wsX90)
def wsX9_correct : List Cond := .code yX9_correct cX9_correct 8 (some .int) :: ([.fieldLink RX9 22 "CrewPayModel" "sheetWeeks" "[I", .fieldLink RX9 25 "CrewPayModel" "dayHours" "[I", .fieldLink RX9 28 "CrewPayModel" "nightHours" "[I", .methodLink RX9 86 yX9_isWorker, .instanceMethod yX9_isWorker, .selects RX9 yX9_isWorker yX9_isWorker, .initialized RX9, .code yX9_isWorker cX9_isWorker 2 (some .boolean), .fieldLink RX9 75 "CrewPayModel" "workers" "I", .methodLink RX9 78 yX9_in, .static yX9_in, .code yX9_in cX9_in 3 (some .boolean), .methodLink RX9 96 yX9_areHours, .static yX9_areHours, .code yX9_areHours cX9_areHours 2 (some .boolean), .methodLink RX9 82 yX9_holds, .instanceMethod yX9_holds, .selects RX9 yX9_holds yX9_holds, .code yX9_holds cX9_holds 2 (some .boolean), .fieldLink RX9 72 "CrewPayModel" "thrown" "I"] ++ wsX90)
def wsX9_acknowledged : List Cond := .code yX9_acknowledged cX9_acknowledged 2 (some .int) :: ([.methodLink RX9 86 yX9_isWorker, .instanceMethod yX9_isWorker, .selects RX9 yX9_isWorker yX9_isWorker, .initialized RX9, .code yX9_isWorker cX9_isWorker 2 (some .boolean), .fieldLink RX9 75 "CrewPayModel" "workers" "I", .methodLink RX9 78 yX9_in, .static yX9_in, .code yX9_in cX9_in 3 (some .boolean), .methodLink RX9 82 yX9_holds, .instanceMethod yX9_holds, .selects RX9 yX9_holds yX9_holds, .code yX9_holds cX9_holds 2 (some .boolean), .fieldLink RX9 72 "CrewPayModel" "thrown" "I", .methodLink RX9 100 yX9_counting, .instanceMethod yX9_counting, .selects RX9 yX9_counting yX9_counting, .code yX9_counting cX9_counting 3 (some .int), .fieldLink RX9 22 "CrewPayModel" "sheetWeeks" "[I"] ++ wsX90)
def wsX9_dueFor : List Cond := .code yX9_dueFor cX9_dueFor 8 (some .int) :: ([.fieldLink RX9 13 "CrewPayModel" "ranks" "[I", .fieldLink RX9 16 "CrewPayModel" "days" "[I", .fieldLink RX9 22 "CrewPayModel" "sheetWeeks" "[I", .fieldLink RX9 25 "CrewPayModel" "dayHours" "[I", .fieldLink RX9 28 "CrewPayModel" "nightHours" "[I", .fieldLink RX9 19 "CrewPayModel" "nights" "[I", .methodLink RX9 92 yX9_told, .static yX9_told, .initialized RX9, .code yX9_told cX9_told 4 (some .int), .methodLink RX9 100 yX9_counting, .instanceMethod yX9_counting, .selects RX9 yX9_counting yX9_counting, .code yX9_counting cX9_counting 3 (some .int)] ++ wsX90)
def wsX9_due_r1 : List Cond := [Cond.methodLink RX9 86 yX9_isWorker, Cond.instanceMethod yX9_isWorker, Cond.selects RX9 yX9_isWorker yX9_isWorker, Cond.initialized RX9, Cond.code yX9_isWorker cX9_isWorker 2 (some .boolean), Cond.fieldLink RX9 75 "CrewPayModel" "workers" "I", Cond.methodLink RX9 78 yX9_in, Cond.static yX9_in, Cond.code yX9_in cX9_in 3 (some .boolean), Cond.methodLink RX9 89 yX9_isWeek, Cond.static yX9_isWeek, Cond.code yX9_isWeek cX9_isWeek 1 (some .boolean), Cond.methodLink RX9 82 yX9_holds, Cond.instanceMethod yX9_holds, Cond.selects RX9 yX9_holds yX9_holds, Cond.code yX9_holds cX9_holds 2 (some .boolean), Cond.fieldLink RX9 72 "CrewPayModel" "thrown" "I", Cond.methodLink RX9 104 yX9_dueFor, Cond.instanceMethod yX9_dueFor, Cond.selects RX9 yX9_dueFor yX9_dueFor, Cond.code yX9_dueFor cX9_dueFor 8 (some .int), Cond.fieldLink RX9 13 "CrewPayModel" "ranks" "[I", Cond.fieldLink RX9 16 "CrewPayModel" "days" "[I", Cond.fieldLink RX9 22 "CrewPayModel" "sheetWeeks" "[I"]
def wsX9_due_r2 : List Cond := [Cond.fieldLink RX9 25 "CrewPayModel" "dayHours" "[I", Cond.fieldLink RX9 28 "CrewPayModel" "nightHours" "[I", Cond.fieldLink RX9 19 "CrewPayModel" "nights" "[I", Cond.methodLink RX9 92 yX9_told, Cond.static yX9_told, Cond.code yX9_told cX9_told 4 (some .int), Cond.methodLink RX9 100 yX9_counting, Cond.instanceMethod yX9_counting, Cond.selects RX9 yX9_counting yX9_counting, Cond.code yX9_counting cX9_counting 3 (some .int)]
def wsX9_due : List Cond := .code yX9_due cX9_due 3 (some .int) :: ((wsX9_due_r1 ++ wsX9_due_r2) ++ wsX90)
def wsX9_order : List Cond := .code yX9_order cX9_order 6 (some .int) :: ([.constant RX9 108 (10000000), .constant RX9 109 (1000000), .fieldLink RX9 110 "CrewPayModel" "orders" "I", .fieldLink RX9 40 "CrewPayModel" "orderWorkers" "[I", .fieldLink RX9 43 "CrewPayModel" "grades" "[I", .fieldLink RX9 46 "CrewPayModel" "lefts" "[I", .fieldLink RX9 49 "CrewPayModel" "parts" "[I", .methodLink RX9 78 yX9_in, .static yX9_in, .initialized RX9, .code yX9_in cX9_in 3 (some .boolean), .methodLink RX9 86 yX9_isWorker, .instanceMethod yX9_isWorker, .selects RX9 yX9_isWorker yX9_isWorker, .code yX9_isWorker cX9_isWorker 2 (some .boolean), .fieldLink RX9 75 "CrewPayModel" "workers" "I", .methodLink RX9 82 yX9_holds, .instanceMethod yX9_holds, .selects RX9 yX9_holds yX9_holds, .code yX9_holds cX9_holds 2 (some .boolean), .fieldLink RX9 72 "CrewPayModel" "thrown" "I"] ++ wsX90)
def wsX9_left : List Cond := .code yX9_left cX9_left 2 (some .int) :: ([.fieldLink RX9 110 "CrewPayModel" "orders" "I", .fieldLink RX9 46 "CrewPayModel" "lefts" "[I", .methodLink RX9 78 yX9_in, .static yX9_in, .initialized RX9, .code yX9_in cX9_in 3 (some .boolean), .methodLink RX9 82 yX9_holds, .instanceMethod yX9_holds, .selects RX9 yX9_holds yX9_holds, .code yX9_holds cX9_holds 2 (some .boolean), .fieldLink RX9 72 "CrewPayModel" "thrown" "I"] ++ wsX90)
def wsX9_setFloor : List Cond := .code yX9_setFloor cX9_setFloor 3 (some .int) :: ([.constant RX9 108 (10000000), .fieldLink RX9 52 "CrewPayModel" "floor" "I", .methodLink RX9 78 yX9_in, .static yX9_in, .initialized RX9, .code yX9_in cX9_in 3 (some .boolean), .methodLink RX9 82 yX9_holds, .instanceMethod yX9_holds, .selects RX9 yX9_holds yX9_holds, .code yX9_holds cX9_holds 2 (some .boolean), .fieldLink RX9 72 "CrewPayModel" "thrown" "I"] ++ wsX90)
def wsX9_isEmployer : List Cond := .code yX9_isEmployer cX9_isEmployer 1 (some .boolean) :: ([.methodLink RX9 78 yX9_in, .static yX9_in, .initialized RX9, .code yX9_in cX9_in 3 (some .boolean)])
def wsX9_fill : List Cond := .code yX9_fill cX9_fill 4 (some .int) :: ([.constant RX9 108 (10000000), .fieldLink RX9 116 "CrewPayModel" "transfers" "I", .fieldLink RX9 59 "CrewPayModel" "shortages" "[I", .fieldLink RX9 56 "CrewPayModel" "pots" "[I", .fieldLink RX9 62 "CrewPayModel" "transferTo" "[I", .fieldLink RX9 65 "CrewPayModel" "transferred" "[I", .methodLink RX9 113 yX9_isEmployer, .static yX9_isEmployer, .initialized RX9, .code yX9_isEmployer cX9_isEmployer 1 (some .boolean), .methodLink RX9 78 yX9_in, .static yX9_in, .code yX9_in cX9_in 3 (some .boolean), .methodLink RX9 82 yX9_holds, .instanceMethod yX9_holds, .selects RX9 yX9_holds yX9_holds, .code yX9_holds cX9_holds 2 (some .boolean), .fieldLink RX9 72 "CrewPayModel" "thrown" "I", .methodLink RX9 119 yX9_least, .static yX9_least, .code yX9_least cX9_least 2 (some .int)] ++ wsX90)
def wsX9_bounce : List Cond := .code yX9_bounce cX9_bounce 5 (some .int) :: ([.fieldLink RX9 116 "CrewPayModel" "transfers" "I", .fieldLink RX9 68 "CrewPayModel" "haveBounced" "[Z", .fieldLink RX9 62 "CrewPayModel" "transferTo" "[I", .fieldLink RX9 65 "CrewPayModel" "transferred" "[I", .fieldLink RX9 56 "CrewPayModel" "pots" "[I", .fieldLink RX9 59 "CrewPayModel" "shortages" "[I", .methodLink RX9 78 yX9_in, .static yX9_in, .initialized RX9, .code yX9_in cX9_in 3 (some .boolean), .methodLink RX9 82 yX9_holds, .instanceMethod yX9_holds, .selects RX9 yX9_holds yX9_holds, .code yX9_holds cX9_holds 2 (some .boolean), .fieldLink RX9 72 "CrewPayModel" "thrown" "I", .methodLink RX9 119 yX9_least, .static yX9_least, .code yX9_least cX9_least 2 (some .int)] ++ wsX90)
def wsX9_pot : List Cond := .code yX9_pot cX9_pot 2 (some .int) :: ([.fieldLink RX9 56 "CrewPayModel" "pots" "[I", .methodLink RX9 113 yX9_isEmployer, .static yX9_isEmployer, .initialized RX9, .code yX9_isEmployer cX9_isEmployer 1 (some .boolean), .methodLink RX9 78 yX9_in, .static yX9_in, .code yX9_in cX9_in 3 (some .boolean), .methodLink RX9 82 yX9_holds, .instanceMethod yX9_holds, .selects RX9 yX9_holds yX9_holds, .code yX9_holds cX9_holds 2 (some .boolean), .fieldLink RX9 72 "CrewPayModel" "thrown" "I"] ++ wsX90)
def wsX9_shortage : List Cond := .code yX9_shortage cX9_shortage 2 (some .int) :: ([.fieldLink RX9 59 "CrewPayModel" "shortages" "[I", .methodLink RX9 113 yX9_isEmployer, .static yX9_isEmployer, .initialized RX9, .code yX9_isEmployer cX9_isEmployer 1 (some .boolean), .methodLink RX9 78 yX9_in, .static yX9_in, .code yX9_in cX9_in 3 (some .boolean), .methodLink RX9 82 yX9_holds, .instanceMethod yX9_holds, .selects RX9 yX9_holds yX9_holds, .code yX9_holds cX9_holds 2 (some .boolean), .fieldLink RX9 72 "CrewPayModel" "thrown" "I"] ++ wsX90)
def wsX9_claimOf : List Cond := .code yX9_claimOf cX9_claimOf 4 (some .int) :: ([.fieldLink RX9 122 "CrewPayModel" "week" "I", .fieldLink RX9 31 "CrewPayModel" "reckoned" "[I", .methodLink RX9 104 yX9_dueFor, .instanceMethod yX9_dueFor, .selects RX9 yX9_dueFor yX9_dueFor, .initialized RX9, .code yX9_dueFor cX9_dueFor 8 (some .int), .fieldLink RX9 13 "CrewPayModel" "ranks" "[I", .fieldLink RX9 16 "CrewPayModel" "days" "[I", .fieldLink RX9 22 "CrewPayModel" "sheetWeeks" "[I", .fieldLink RX9 25 "CrewPayModel" "dayHours" "[I", .fieldLink RX9 28 "CrewPayModel" "nightHours" "[I", .fieldLink RX9 19 "CrewPayModel" "nights" "[I", .methodLink RX9 92 yX9_told, .static yX9_told, .code yX9_told cX9_told 4 (some .int), .methodLink RX9 100 yX9_counting, .instanceMethod yX9_counting, .selects RX9 yX9_counting yX9_counting, .code yX9_counting cX9_counting 3 (some .int)] ++ wsX90)
def wsX9_garnishes : List Cond := .code yX9_garnishes cX9_garnishes 9 (some .int) :: ([.fieldLink RX9 110 "CrewPayModel" "orders" "I", .fieldLink RX9 40 "CrewPayModel" "orderWorkers" "[I", .fieldLink RX9 43 "CrewPayModel" "grades" "[I", .fieldLink RX9 52 "CrewPayModel" "floor" "I", .fieldLink RX9 46 "CrewPayModel" "lefts" "[I", .fieldLink RX9 49 "CrewPayModel" "parts" "[I", .methodLink RX9 119 yX9_least, .static yX9_least, .initialized RX9, .code yX9_least cX9_least 2 (some .int)] ++ wsX90)
def wsX9_pays : List Cond := .code yX9_pays cX9_pays 6 none :: ([.fieldLink RX9 7 "CrewPayModel" "employers" "[I", .fieldLink RX9 122 "CrewPayModel" "week" "I", .fieldLink RX9 34 "CrewPayModel" "toTakeBack" "[I", .fieldLink RX9 31 "CrewPayModel" "reckoned" "[I", .fieldLink RX9 56 "CrewPayModel" "pots" "[I", .fieldLink RX9 37 "CrewPayModel" "slips" "[I", .methodLink RX9 119 yX9_least, .static yX9_least, .initialized RX9, .code yX9_least cX9_least 2 (some .int), .methodLink RX9 125 yX9_garnishes, .instanceMethod yX9_garnishes, .selects RX9 yX9_garnishes yX9_garnishes, .code yX9_garnishes cX9_garnishes 9 (some .int), .fieldLink RX9 110 "CrewPayModel" "orders" "I", .fieldLink RX9 40 "CrewPayModel" "orderWorkers" "[I", .fieldLink RX9 43 "CrewPayModel" "grades" "[I", .fieldLink RX9 52 "CrewPayModel" "floor" "I", .fieldLink RX9 46 "CrewPayModel" "lefts" "[I", .fieldLink RX9 49 "CrewPayModel" "parts" "[I"] ++ wsX90)
def wsX9_close_r1 : List Cond := [Cond.fieldLink RX9 122 "CrewPayModel" "week" "I", Cond.fieldLink RX9 75 "CrewPayModel" "workers" "I", Cond.fieldLink RX9 34 "CrewPayModel" "toTakeBack" "[I", Cond.fieldLink RX9 31 "CrewPayModel" "reckoned" "[I", Cond.fieldLink RX9 56 "CrewPayModel" "pots" "[I", Cond.fieldLink RX9 7 "CrewPayModel" "employers" "[I", Cond.methodLink RX9 82 yX9_holds, Cond.instanceMethod yX9_holds, Cond.selects RX9 yX9_holds yX9_holds, Cond.initialized RX9, Cond.code yX9_holds cX9_holds 2 (some .boolean), Cond.fieldLink RX9 72 "CrewPayModel" "thrown" "I", Cond.methodLink RX9 128 yX9_claimOf, Cond.instanceMethod yX9_claimOf, Cond.selects RX9 yX9_claimOf yX9_claimOf, Cond.code yX9_claimOf cX9_claimOf 4 (some .int), Cond.methodLink RX9 104 yX9_dueFor, Cond.instanceMethod yX9_dueFor, Cond.selects RX9 yX9_dueFor yX9_dueFor, Cond.code yX9_dueFor cX9_dueFor 8 (some .int), Cond.fieldLink RX9 13 "CrewPayModel" "ranks" "[I", Cond.fieldLink RX9 16 "CrewPayModel" "days" "[I", Cond.fieldLink RX9 22 "CrewPayModel" "sheetWeeks" "[I", Cond.fieldLink RX9 25 "CrewPayModel" "dayHours" "[I"]
def wsX9_close_r2 : List Cond := [Cond.fieldLink RX9 28 "CrewPayModel" "nightHours" "[I", Cond.fieldLink RX9 19 "CrewPayModel" "nights" "[I", Cond.methodLink RX9 92 yX9_told, Cond.static yX9_told, Cond.code yX9_told cX9_told 4 (some .int), Cond.methodLink RX9 100 yX9_counting, Cond.instanceMethod yX9_counting, Cond.selects RX9 yX9_counting yX9_counting, Cond.code yX9_counting cX9_counting 3 (some .int), Cond.methodLink RX9 131 yX9_pays, Cond.instanceMethod yX9_pays, Cond.selects RX9 yX9_pays yX9_pays, Cond.code yX9_pays cX9_pays 6 none, Cond.fieldLink RX9 37 "CrewPayModel" "slips" "[I", Cond.methodLink RX9 119 yX9_least, Cond.static yX9_least, Cond.code yX9_least cX9_least 2 (some .int), Cond.methodLink RX9 125 yX9_garnishes, Cond.instanceMethod yX9_garnishes, Cond.selects RX9 yX9_garnishes yX9_garnishes, Cond.code yX9_garnishes cX9_garnishes 9 (some .int), Cond.fieldLink RX9 110 "CrewPayModel" "orders" "I", Cond.fieldLink RX9 40 "CrewPayModel" "orderWorkers" "[I", Cond.fieldLink RX9 43 "CrewPayModel" "grades" "[I"]
def wsX9_close_r3 : List Cond := [Cond.fieldLink RX9 52 "CrewPayModel" "floor" "I", Cond.fieldLink RX9 46 "CrewPayModel" "lefts" "[I", Cond.fieldLink RX9 49 "CrewPayModel" "parts" "[I"]
def wsX9_close : List Cond := .code yX9_close cX9_close 4 (some .int) :: ((wsX9_close_r1 ++ (wsX9_close_r2 ++ wsX9_close_r3)) ++ wsX90)
def wsX9_week : List Cond := .code yX9_week cX9_week 1 (some .int) :: ([.fieldLink RX9 72 "CrewPayModel" "thrown" "I", .fieldLink RX9 122 "CrewPayModel" "week" "I"] ++ wsX90)
def wsX9_slip : List Cond := .code yX9_slip cX9_slip 4 (some .int) :: ([.fieldLink RX9 37 "CrewPayModel" "slips" "[I", .methodLink RX9 86 yX9_isWorker, .instanceMethod yX9_isWorker, .selects RX9 yX9_isWorker yX9_isWorker, .initialized RX9, .code yX9_isWorker cX9_isWorker 2 (some .boolean), .fieldLink RX9 75 "CrewPayModel" "workers" "I", .methodLink RX9 78 yX9_in, .static yX9_in, .code yX9_in cX9_in 3 (some .boolean), .methodLink RX9 89 yX9_isWeek, .static yX9_isWeek, .code yX9_isWeek cX9_isWeek 1 (some .boolean), .methodLink RX9 82 yX9_holds, .instanceMethod yX9_holds, .selects RX9 yX9_holds yX9_holds, .code yX9_holds cX9_holds 2 (some .boolean), .fieldLink RX9 72 "CrewPayModel" "thrown" "I"] ++ wsX90)
def wsX9_toTakeBack : List Cond := .code yX9_toTakeBack cX9_toTakeBack 2 (some .int) :: ([.fieldLink RX9 34 "CrewPayModel" "toTakeBack" "[I", .methodLink RX9 86 yX9_isWorker, .instanceMethod yX9_isWorker, .selects RX9 yX9_isWorker yX9_isWorker, .initialized RX9, .code yX9_isWorker cX9_isWorker 2 (some .boolean), .fieldLink RX9 75 "CrewPayModel" "workers" "I", .methodLink RX9 78 yX9_in, .static yX9_in, .code yX9_in cX9_in 3 (some .boolean), .methodLink RX9 82 yX9_holds, .instanceMethod yX9_holds, .selects RX9 yX9_holds yX9_holds, .code yX9_holds cX9_holds 2 (some .boolean), .fieldLink RX9 72 "CrewPayModel" "thrown" "I"] ++ wsX90)
def wsX9_claim_r1 : List Cond := [Cond.methodLink RX9 86 yX9_isWorker, Cond.instanceMethod yX9_isWorker, Cond.selects RX9 yX9_isWorker yX9_isWorker, Cond.initialized RX9, Cond.code yX9_isWorker cX9_isWorker 2 (some .boolean), Cond.fieldLink RX9 75 "CrewPayModel" "workers" "I", Cond.methodLink RX9 78 yX9_in, Cond.static yX9_in, Cond.code yX9_in cX9_in 3 (some .boolean), Cond.methodLink RX9 82 yX9_holds, Cond.instanceMethod yX9_holds, Cond.selects RX9 yX9_holds yX9_holds, Cond.code yX9_holds cX9_holds 2 (some .boolean), Cond.fieldLink RX9 72 "CrewPayModel" "thrown" "I", Cond.methodLink RX9 128 yX9_claimOf, Cond.instanceMethod yX9_claimOf, Cond.selects RX9 yX9_claimOf yX9_claimOf, Cond.code yX9_claimOf cX9_claimOf 4 (some .int), Cond.fieldLink RX9 122 "CrewPayModel" "week" "I", Cond.fieldLink RX9 31 "CrewPayModel" "reckoned" "[I", Cond.methodLink RX9 104 yX9_dueFor, Cond.instanceMethod yX9_dueFor, Cond.selects RX9 yX9_dueFor yX9_dueFor, Cond.code yX9_dueFor cX9_dueFor 8 (some .int)]
def wsX9_claim_r2 : List Cond := [Cond.fieldLink RX9 13 "CrewPayModel" "ranks" "[I", Cond.fieldLink RX9 16 "CrewPayModel" "days" "[I", Cond.fieldLink RX9 22 "CrewPayModel" "sheetWeeks" "[I", Cond.fieldLink RX9 25 "CrewPayModel" "dayHours" "[I", Cond.fieldLink RX9 28 "CrewPayModel" "nightHours" "[I", Cond.fieldLink RX9 19 "CrewPayModel" "nights" "[I", Cond.methodLink RX9 92 yX9_told, Cond.static yX9_told, Cond.code yX9_told cX9_told 4 (some .int), Cond.methodLink RX9 100 yX9_counting, Cond.instanceMethod yX9_counting, Cond.selects RX9 yX9_counting yX9_counting, Cond.code yX9_counting cX9_counting 3 (some .int)]
def wsX9_claim : List Cond := .code yX9_claim cX9_claim 2 (some .int) :: ((wsX9_claim_r1 ++ wsX9_claim_r2) ++ wsX90)
def wsX9_claimBySlips_r1 : List Cond := [Cond.methodLink RX9 86 yX9_isWorker, Cond.instanceMethod yX9_isWorker, Cond.selects RX9 yX9_isWorker yX9_isWorker, Cond.initialized RX9, Cond.code yX9_isWorker cX9_isWorker 2 (some .boolean), Cond.fieldLink RX9 75 "CrewPayModel" "workers" "I", Cond.methodLink RX9 78 yX9_in, Cond.static yX9_in, Cond.code yX9_in cX9_in 3 (some .boolean), Cond.methodLink RX9 82 yX9_holds, Cond.instanceMethod yX9_holds, Cond.selects RX9 yX9_holds yX9_holds, Cond.code yX9_holds cX9_holds 2 (some .boolean), Cond.fieldLink RX9 72 "CrewPayModel" "thrown" "I", Cond.methodLink RX9 128 yX9_claimOf, Cond.instanceMethod yX9_claimOf, Cond.selects RX9 yX9_claimOf yX9_claimOf, Cond.code yX9_claimOf cX9_claimOf 4 (some .int), Cond.fieldLink RX9 122 "CrewPayModel" "week" "I", Cond.fieldLink RX9 31 "CrewPayModel" "reckoned" "[I", Cond.methodLink RX9 104 yX9_dueFor, Cond.instanceMethod yX9_dueFor, Cond.selects RX9 yX9_dueFor yX9_dueFor, Cond.code yX9_dueFor cX9_dueFor 8 (some .int)]
def wsX9_claimBySlips_r2 : List Cond := [Cond.fieldLink RX9 13 "CrewPayModel" "ranks" "[I", Cond.fieldLink RX9 16 "CrewPayModel" "days" "[I", Cond.fieldLink RX9 22 "CrewPayModel" "sheetWeeks" "[I", Cond.fieldLink RX9 25 "CrewPayModel" "dayHours" "[I", Cond.fieldLink RX9 28 "CrewPayModel" "nightHours" "[I", Cond.fieldLink RX9 19 "CrewPayModel" "nights" "[I", Cond.methodLink RX9 92 yX9_told, Cond.static yX9_told, Cond.code yX9_told cX9_told 4 (some .int), Cond.methodLink RX9 100 yX9_counting, Cond.instanceMethod yX9_counting, Cond.selects RX9 yX9_counting yX9_counting, Cond.code yX9_counting cX9_counting 3 (some .int)]
def wsX9_claimBySlips : List Cond := .code yX9_claimBySlips cX9_claimBySlips 2 (some .int) :: ((wsX9_claimBySlips_r1 ++ wsX9_claimBySlips_r2) ++ wsX90)
def wsJ9_max_7cf53 : List Cond := .code yJ9_max_7cf53 cJ9_max_7cf53 2 (some .int) :: ([])
def wsJ9_min_7cf53 : List Cond := .code yJ9_min_7cf53 cJ9_min_7cf53 2 (some .int) :: ([])
def wsL_addWorker_r1 : List Cond := [Cond.classLink RL 13 "java/lang/IndexOutOfBoundsException", Cond.classLink RL 15 "java/lang/IllegalStateException", Cond.methodLink RL 7 yX8_addWorker, Cond.instanceMethod yX8_addWorker, Cond.selects RX8 yX8_addWorker yX8_addWorker, Cond.initialized RX8, Cond.code yX8_addWorker cX8_addWorker 3 (some .int), Cond.classLink RX8 61 "java/lang/IllegalStateException", Cond.initialized "java/lang/IllegalStateException", Cond.fieldLink RX8 39 "CrewPay" "workerCount" "I", Cond.fieldLink RX8 23 "CrewPay" "workers" "[LCrewPay$Worker;", Cond.classLink RX8 21 RX7, Cond.instantiable RX7 8, Cond.initialized RX7, Cond.methodLink RX8 57 yX8_potOf, Cond.instanceMethod yX8_potOf, Cond.selects RX8 yX8_potOf yX8_potOf, Cond.code yX8_potOf cX8_potOf 3 (some (.object "CrewPay$Pot")), Cond.classLink RX8 125 "java/lang/IndexOutOfBoundsException", Cond.initialized "java/lang/IndexOutOfBoundsException", Cond.fieldLink RX8 11 "CrewPay" "pots" "[LCrewPay$Pot;", Cond.methodLink RX8 68 yX7_init, Cond.instanceMethod yX7_init, Cond.code yX7_init cX7_init 2 none]
def wsL_addWorker_r2 : List Cond := [Cond.methodLink RX7 3 objectInit, Cond.instanceMethod objectInit, Cond.code objectInit ⟨#[0xb1]⟩ 1 none, Cond.classLink RX7 9 RX3, Cond.instantiable RX3 2, Cond.initialized RX3, Cond.fieldLink RX7 14 "CrewPay$Worker" "rank" "LCrewPay$Rule;", Cond.fieldLink RX7 20 "CrewPay$Worker" "counting" "I", Cond.fieldLink RX7 24 "CrewPay$Worker" "reckoned" "I", Cond.fieldLink RX7 27 "CrewPay$Worker" "toTakeBack" "I", Cond.fieldLink RX7 30 "CrewPay$Worker" "everToTakeBack" "I", Cond.classLink RX7 33 RX4, Cond.fieldLink RX7 35 "CrewPay$Worker" "sheets" "[LCrewPay$Sheet;", Cond.classLink RX7 39 RX5, Cond.fieldLink RX7 41 "CrewPay$Worker" "slips" "[LCrewPay$Slip;", Cond.fieldLink RX7 45 "CrewPay$Worker" "pot" "LCrewPay$Pot;", Cond.methodLink RX7 11 yX3_init, Cond.instanceMethod yX3_init, Cond.code yX3_init cX3_init 3 none, Cond.methodLink RX3 3 objectInit, Cond.arrayClass .int, Cond.fieldLink RX3 9 "CrewPay$Rule" "values" "[I", Cond.arrayClass .boolean, Cond.fieldLink RX3 15 "CrewPay$Rule" "told" "[Z"]
def wsL_addWorker : List Cond := .codeWith yL_addWorker cL_addWorker 4 (some .int) [(0, 9, 12, 13), (0, 9, 15, 15)] :: ((wsL_addWorker_r1 ++ wsL_addWorker_r2) ++ wsX80 ++ wsX70 ++ wsX30 ++ (vx_atS RX8 65 "java/lang/IllegalStateException" ["java/lang/RuntimeException", "java/lang/Exception"]).filter goodWord ++ (vx_atS RX8 129 "java/lang/IndexOutOfBoundsException" ["java/lang/RuntimeException", "java/lang/Exception"]).filter goodWord)
def wsL_setRank_r1 : List Cond := [Cond.classLink RL 13 "java/lang/IndexOutOfBoundsException", Cond.classLink RL 21 "java/lang/IllegalArgumentException", Cond.methodLink RL 17 yX8_setRank, Cond.instanceMethod yX8_setRank, Cond.selects RX8 yX8_setRank yX8_setRank, Cond.initialized RX8, Cond.code yX8_setRank cX8_setRank 6 (some .int), Cond.fieldLink RX8 83 "CrewPay$Worker" "rank" "LCrewPay$Rule;", Cond.methodLink RX8 71 yX8_workerOf, Cond.instanceMethod yX8_workerOf, Cond.selects RX8 yX8_workerOf yX8_workerOf, Cond.code yX8_workerOf cX8_workerOf 3 (some (.object "CrewPay$Worker")), Cond.classLink RX8 125 "java/lang/IndexOutOfBoundsException", Cond.initialized "java/lang/IndexOutOfBoundsException", Cond.fieldLink RX8 23 "CrewPay" "workers" "[LCrewPay$Worker;", Cond.methodLink RX8 75 yX8_ratesOf, Cond.instanceMethod yX8_ratesOf, Cond.selects RX8 yX8_ratesOf yX8_ratesOf, Cond.code yX8_ratesOf cX8_ratesOf 3 (some (.object "CrewPay$Rates")), Cond.methodLink RX8 206 yX8_ratesOrNull, Cond.instanceMethod yX8_ratesOrNull, Cond.selects RX8 yX8_ratesOrNull yX8_ratesOrNull, Cond.code yX8_ratesOrNull cX8_ratesOrNull 2 (some (.object "CrewPay$Rates")), Cond.fieldLink RX8 17 "CrewPay" "ratesByRank" "[LCrewPay$Rates;"]
def wsL_setRank_r2 : List Cond := [Cond.methodLink RX8 79 yX8_checkWeek, Cond.static yX8_checkWeek, Cond.code yX8_checkWeek cX8_checkWeek 1 none, Cond.methodLink RX8 97 yX8_checkRange, Cond.static yX8_checkRange, Cond.code yX8_checkRange cX8_checkRange 3 none, Cond.classLink RX8 211 "java/lang/IllegalArgumentException", Cond.initialized "java/lang/IllegalArgumentException", Cond.methodLink RX8 87 yX3_inWeek, Cond.instanceMethod yX3_inWeek, Cond.selects RX3 yX3_inWeek yX3_inWeek, Cond.initialized RX3, Cond.code yX3_inWeek cX3_inWeek 2 (some .int), Cond.fieldLink RX3 9 "CrewPay$Rule" "values" "[I", Cond.methodLink RX8 93 yX3_tell, Cond.instanceMethod yX3_tell, Cond.selects RX3 yX3_tell yX3_tell, Cond.code yX3_tell cX3_tell 4 none, Cond.fieldLink RX3 15 "CrewPay$Rule" "told" "[Z"]
def wsL_setRank : List Cond := .codeWith yL_setRank cL_setRank 6 (some .int) [(0, 12, 15, 13), (0, 12, 19, 21)] :: ((wsL_setRank_r1 ++ wsL_setRank_r2) ++ wsX70 ++ wsX80 ++ wsX30 ++ (vx_atS RX8 129 "java/lang/IndexOutOfBoundsException" ["java/lang/RuntimeException", "java/lang/Exception"]).filter goodWord ++ (vx_atS RX8 215 "java/lang/IllegalArgumentException" ["java/lang/RuntimeException", "java/lang/Exception"]).filter goodWord)
def wsL_setRates_r1 : List Cond := [Cond.classLink RL 13 "java/lang/IndexOutOfBoundsException", Cond.classLink RL 21 "java/lang/IllegalArgumentException", Cond.methodLink RL 23 yX8_setRates, Cond.instanceMethod yX8_setRates, Cond.selects RX8 yX8_setRates yX8_setRates, Cond.initialized RX8, Cond.code yX8_setRates cX8_setRates 7 (some .int), Cond.fieldLink RX8 101 "CrewPay$Rates" "day" "LCrewPay$Rule;", Cond.fieldLink RX8 104 "CrewPay$Rates" "night" "LCrewPay$Rule;", Cond.methodLink RX8 75 yX8_ratesOf, Cond.instanceMethod yX8_ratesOf, Cond.selects RX8 yX8_ratesOf yX8_ratesOf, Cond.code yX8_ratesOf cX8_ratesOf 3 (some (.object "CrewPay$Rates")), Cond.classLink RX8 125 "java/lang/IndexOutOfBoundsException", Cond.initialized "java/lang/IndexOutOfBoundsException", Cond.methodLink RX8 206 yX8_ratesOrNull, Cond.instanceMethod yX8_ratesOrNull, Cond.selects RX8 yX8_ratesOrNull yX8_ratesOrNull, Cond.code yX8_ratesOrNull cX8_ratesOrNull 2 (some (.object "CrewPay$Rates")), Cond.fieldLink RX8 17 "CrewPay" "ratesByRank" "[LCrewPay$Rates;", Cond.methodLink RX8 79 yX8_checkWeek, Cond.static yX8_checkWeek, Cond.code yX8_checkWeek cX8_checkWeek 1 none, Cond.methodLink RX8 97 yX8_checkRange]
def wsL_setRates_r2 : List Cond := [Cond.static yX8_checkRange, Cond.code yX8_checkRange cX8_checkRange 3 none, Cond.classLink RX8 211 "java/lang/IllegalArgumentException", Cond.initialized "java/lang/IllegalArgumentException", Cond.methodLink RX8 87 yX3_inWeek, Cond.instanceMethod yX3_inWeek, Cond.selects RX3 yX3_inWeek yX3_inWeek, Cond.initialized RX3, Cond.code yX3_inWeek cX3_inWeek 2 (some .int), Cond.fieldLink RX3 9 "CrewPay$Rule" "values" "[I", Cond.methodLink RX8 93 yX3_tell, Cond.instanceMethod yX3_tell, Cond.selects RX3 yX3_tell yX3_tell, Cond.code yX3_tell cX3_tell 4 none, Cond.fieldLink RX3 15 "CrewPay$Rule" "told" "[Z"]
def wsL_setRates : List Cond := .codeWith yL_setRates cL_setRates 7 (some .int) [(0, 14, 17, 13), (0, 14, 21, 21)] :: ((wsL_setRates_r1 ++ wsL_setRates_r2) ++ wsX20 ++ wsX80 ++ wsX30 ++ (vx_atS RX8 129 "java/lang/IndexOutOfBoundsException" ["java/lang/RuntimeException", "java/lang/Exception"]).filter goodWord ++ (vx_atS RX8 215 "java/lang/IllegalArgumentException" ["java/lang/RuntimeException", "java/lang/Exception"]).filter goodWord)
def wsL_come_r1 : List Cond := [Cond.classLink RL 13 "java/lang/IndexOutOfBoundsException", Cond.classLink RL 21 "java/lang/IllegalArgumentException", Cond.methodLink RL 27 yX8_come, Cond.instanceMethod yX8_come, Cond.selects RX8 yX8_come yX8_come, Cond.initialized RX8, Cond.code yX8_come cX8_come 7 (some .int), Cond.classLink RX8 114 RX4, Cond.instantiable RX4 3, Cond.initialized RX4, Cond.fieldLink RX8 122 "CrewPay$Worker" "counting" "I", Cond.methodLink RX8 71 yX8_workerOf, Cond.instanceMethod yX8_workerOf, Cond.selects RX8 yX8_workerOf yX8_workerOf, Cond.code yX8_workerOf cX8_workerOf 3 (some (.object "CrewPay$Worker")), Cond.classLink RX8 125 "java/lang/IndexOutOfBoundsException", Cond.initialized "java/lang/IndexOutOfBoundsException", Cond.fieldLink RX8 23 "CrewPay" "workers" "[LCrewPay$Worker;", Cond.methodLink RX8 97 yX8_checkRange, Cond.static yX8_checkRange, Cond.code yX8_checkRange cX8_checkRange 3 none, Cond.classLink RX8 211 "java/lang/IllegalArgumentException", Cond.initialized "java/lang/IllegalArgumentException", Cond.methodLink RX8 79 yX8_checkWeek]
def wsL_come_r2 : List Cond := [Cond.static yX8_checkWeek, Cond.code yX8_checkWeek cX8_checkWeek 1 none, Cond.methodLink RX8 107 yX8_checkHours, Cond.static yX8_checkHours, Cond.code yX8_checkHours cX8_checkHours 2 none, Cond.methodLink RX8 110 yX7_sheet, Cond.instanceMethod yX7_sheet, Cond.selects RX7 yX7_sheet yX7_sheet, Cond.initialized RX7, Cond.code yX7_sheet cX7_sheet 2 (some (.object "CrewPay$Sheet")), Cond.fieldLink RX7 35 "CrewPay$Worker" "sheets" "[LCrewPay$Sheet;", Cond.methodLink RX8 116 yX4_init, Cond.instanceMethod yX4_init, Cond.code yX4_init cX4_init 4 none, Cond.methodLink RX4 1 objectInit, Cond.instanceMethod objectInit, Cond.code objectInit ⟨#[0xb1]⟩ 1 none, Cond.fieldLink RX4 7 "CrewPay$Sheet" "week" "I", Cond.fieldLink RX4 13 "CrewPay$Sheet" "day" "I", Cond.fieldLink RX4 16 "CrewPay$Sheet" "night" "I", Cond.methodLink RX8 118 yX7_take, Cond.instanceMethod yX7_take, Cond.selects RX7 yX7_take yX7_take, Cond.code yX7_take cX7_take 3 none]
def wsL_come_r3 : List Cond := [Cond.fieldLink RX7 20 "CrewPay$Worker" "counting" "I", Cond.methodLink RX7 49 yX7_sheet]
def wsL_come : List Cond := .codeWith yL_come cL_come 8 (some .int) [(0, 16, 19, 13), (0, 16, 23, 21)] :: ((wsL_come_r1 ++ (wsL_come_r2 ++ wsL_come_r3)) ++ wsX40 ++ wsX70 ++ wsX80 ++ (vx_atS RX8 129 "java/lang/IndexOutOfBoundsException" ["java/lang/RuntimeException", "java/lang/Exception"]).filter goodWord ++ (vx_atS RX8 215 "java/lang/IllegalArgumentException" ["java/lang/RuntimeException", "java/lang/Exception"]).filter goodWord)
def wsL_correct_r1 : List Cond := [Cond.classLink RL 13 "java/lang/IndexOutOfBoundsException", Cond.classLink RL 21 "java/lang/IllegalArgumentException", Cond.methodLink RL 31 yX8_correct, Cond.instanceMethod yX8_correct, Cond.selects RX8 yX8_correct yX8_correct, Cond.initialized RX8, Cond.code yX8_correct cX8_correct 7 (some .int), Cond.classLink RX8 125 "java/lang/IndexOutOfBoundsException", Cond.initialized "java/lang/IndexOutOfBoundsException", Cond.fieldLink RX8 130 "CrewPay$Sheet" "day" "I", Cond.fieldLink RX8 132 "CrewPay$Sheet" "night" "I", Cond.methodLink RX8 71 yX8_workerOf, Cond.instanceMethod yX8_workerOf, Cond.selects RX8 yX8_workerOf yX8_workerOf, Cond.code yX8_workerOf cX8_workerOf 3 (some (.object "CrewPay$Worker")), Cond.fieldLink RX8 23 "CrewPay" "workers" "[LCrewPay$Worker;", Cond.methodLink RX8 110 yX7_sheet, Cond.instanceMethod yX7_sheet, Cond.selects RX7 yX7_sheet yX7_sheet, Cond.initialized RX7, Cond.code yX7_sheet cX7_sheet 2 (some (.object "CrewPay$Sheet")), Cond.fieldLink RX7 35 "CrewPay$Worker" "sheets" "[LCrewPay$Sheet;", Cond.methodLink RX8 107 yX8_checkHours, Cond.static yX8_checkHours]
def wsL_correct_r2 : List Cond := [Cond.code yX8_checkHours cX8_checkHours 2 none, Cond.methodLink RX8 97 yX8_checkRange, Cond.static yX8_checkRange, Cond.code yX8_checkRange cX8_checkRange 3 none, Cond.classLink RX8 211 "java/lang/IllegalArgumentException", Cond.initialized "java/lang/IllegalArgumentException"]
def wsL_correct : List Cond := .codeWith yL_correct cL_correct 7 (some .int) [(0, 14, 17, 13), (0, 14, 21, 21)] :: ((wsL_correct_r1 ++ wsL_correct_r2) ++ wsX40 ++ wsX80 ++ wsX70 ++ (vx_atS RX8 129 "java/lang/IndexOutOfBoundsException" ["java/lang/RuntimeException", "java/lang/Exception"]).filter goodWord ++ (vx_atS RX8 215 "java/lang/IllegalArgumentException" ["java/lang/RuntimeException", "java/lang/Exception"]).filter goodWord)
def wsL_acknowledged : List Cond := .codeWith yL_acknowledged cL_acknowledged 4 (some .int) [(0, 9, 12, 13)] :: ([.classLink RL 13 "java/lang/IndexOutOfBoundsException", .methodLink RL 34 yX8_acknowledged, .instanceMethod yX8_acknowledged, .selects RX8 yX8_acknowledged yX8_acknowledged, .initialized RX8, .code yX8_acknowledged cX8_acknowledged 2 (some .int), .fieldLink RX8 122 "CrewPay$Worker" "counting" "I", .methodLink RX8 71 yX8_workerOf, .instanceMethod yX8_workerOf, .selects RX8 yX8_workerOf yX8_workerOf, .code yX8_workerOf cX8_workerOf 3 (some (.object "CrewPay$Worker")), .classLink RX8 125 "java/lang/IndexOutOfBoundsException", .initialized "java/lang/IndexOutOfBoundsException", .fieldLink RX8 23 "CrewPay" "workers" "[LCrewPay$Worker;"] ++ wsX70 ++ wsX80 ++ (vx_atS RX8 129 "java/lang/IndexOutOfBoundsException" ["java/lang/RuntimeException", "java/lang/Exception"]).filter goodWord)
def wsL_due_r1 : List Cond := [Cond.classLink RL 13 "java/lang/IndexOutOfBoundsException", Cond.classLink RL 21 "java/lang/IllegalArgumentException", Cond.methodLink RL 37 yX8_due, Cond.instanceMethod yX8_due, Cond.selects RX8 yX8_due yX8_due, Cond.initialized RX8, Cond.code yX8_due cX8_due 4 (some .int), Cond.methodLink RX8 71 yX8_workerOf, Cond.instanceMethod yX8_workerOf, Cond.selects RX8 yX8_workerOf yX8_workerOf, Cond.code yX8_workerOf cX8_workerOf 3 (some (.object "CrewPay$Worker")), Cond.classLink RX8 125 "java/lang/IndexOutOfBoundsException", Cond.initialized "java/lang/IndexOutOfBoundsException", Cond.fieldLink RX8 23 "CrewPay" "workers" "[LCrewPay$Worker;", Cond.methodLink RX8 79 yX8_checkWeek, Cond.static yX8_checkWeek, Cond.code yX8_checkWeek cX8_checkWeek 1 none, Cond.methodLink RX8 97 yX8_checkRange, Cond.static yX8_checkRange, Cond.code yX8_checkRange cX8_checkRange 3 none, Cond.classLink RX8 211 "java/lang/IllegalArgumentException", Cond.initialized "java/lang/IllegalArgumentException", Cond.methodLink RX8 134 yX8_dueBetween, Cond.instanceMethod yX8_dueBetween]
def wsL_due_r2 : List Cond := [Cond.selects RX8 yX8_dueBetween yX8_dueBetween, Cond.code yX8_dueBetween cX8_dueBetween 7 (some .int), Cond.fieldLink RX8 122 "CrewPay$Worker" "counting" "I", Cond.fieldLink RX8 216 "CrewPay$Sheet" "week" "I", Cond.fieldLink RX8 83 "CrewPay$Worker" "rank" "LCrewPay$Rule;", Cond.methodLink RX8 110 yX7_sheet, Cond.instanceMethod yX7_sheet, Cond.selects RX7 yX7_sheet yX7_sheet, Cond.initialized RX7, Cond.code yX7_sheet cX7_sheet 2 (some (.object "CrewPay$Sheet")), Cond.fieldLink RX7 35 "CrewPay$Worker" "sheets" "[LCrewPay$Sheet;", Cond.methodLink RX8 87 yX3_inWeek, Cond.instanceMethod yX3_inWeek, Cond.selects RX3 yX3_inWeek yX3_inWeek, Cond.initialized RX3, Cond.code yX3_inWeek cX3_inWeek 2 (some .int), Cond.fieldLink RX3 9 "CrewPay$Rule" "values" "[I", Cond.methodLink RX8 206 yX8_ratesOrNull, Cond.instanceMethod yX8_ratesOrNull, Cond.selects RX8 yX8_ratesOrNull yX8_ratesOrNull, Cond.code yX8_ratesOrNull cX8_ratesOrNull 2 (some (.object "CrewPay$Rates")), Cond.fieldLink RX8 17 "CrewPay" "ratesByRank" "[LCrewPay$Rates;", Cond.methodLink RX8 219 yX8_payFor, Cond.static yX8_payFor]
def wsL_due_r3 : List Cond := [Cond.code yX8_payFor cX8_payFor 2 (some .int), Cond.fieldLink RX8 130 "CrewPay$Sheet" "day" "I", Cond.fieldLink RX8 101 "CrewPay$Rates" "day" "LCrewPay$Rule;", Cond.fieldLink RX8 132 "CrewPay$Sheet" "night" "I", Cond.fieldLink RX8 104 "CrewPay$Rates" "night" "LCrewPay$Rule;"]
def wsL_due : List Cond := .codeWith yL_due cL_due 5 (some .int) [(0, 10, 13, 13), (0, 10, 17, 21)] :: ((wsL_due_r1 ++ (wsL_due_r2 ++ wsL_due_r3)) ++ wsX80 ++ wsX70 ++ wsX40 ++ wsX30 ++ wsX20 ++ (vx_atS RX8 129 "java/lang/IndexOutOfBoundsException" ["java/lang/RuntimeException", "java/lang/Exception"]).filter goodWord ++ (vx_atS RX8 215 "java/lang/IllegalArgumentException" ["java/lang/RuntimeException", "java/lang/Exception"]).filter goodWord)
def wsL_order_r1 : List Cond := [Cond.classLink RL 13 "java/lang/IndexOutOfBoundsException", Cond.classLink RL 21 "java/lang/IllegalArgumentException", Cond.classLink RL 15 "java/lang/IllegalStateException", Cond.methodLink RL 41 yX8_order, Cond.instanceMethod yX8_order, Cond.selects RX8 yX8_order yX8_order, Cond.initialized RX8, Cond.code yX8_order cX8_order 6 (some .int), Cond.classLink RX8 61 "java/lang/IllegalStateException", Cond.initialized "java/lang/IllegalStateException", Cond.constant RX8 138 (10000000), Cond.constant RX8 139 (1000000), Cond.fieldLink RX8 43 "CrewPay" "orderCount" "I", Cond.fieldLink RX8 29 "CrewPay" "orders" "[LCrewPay$Order;", Cond.classLink RX8 27 RX0, Cond.instantiable RX0 4, Cond.initialized RX0, Cond.methodLink RX8 71 yX8_workerOf, Cond.instanceMethod yX8_workerOf, Cond.selects RX8 yX8_workerOf yX8_workerOf, Cond.code yX8_workerOf cX8_workerOf 3 (some (.object "CrewPay$Worker")), Cond.classLink RX8 125 "java/lang/IndexOutOfBoundsException", Cond.initialized "java/lang/IndexOutOfBoundsException", Cond.fieldLink RX8 23 "CrewPay" "workers" "[LCrewPay$Worker;"]
def wsL_order_r2 : List Cond := [Cond.methodLink RX8 97 yX8_checkRange, Cond.static yX8_checkRange, Cond.code yX8_checkRange cX8_checkRange 3 none, Cond.classLink RX8 211 "java/lang/IllegalArgumentException", Cond.initialized "java/lang/IllegalArgumentException", Cond.methodLink RX8 142 yX0_init, Cond.instanceMethod yX0_init, Cond.code yX0_init cX0_init 5 none, Cond.methodLink RX0 1 objectInit, Cond.instanceMethod objectInit, Cond.code objectInit ⟨#[0xb1]⟩ 1 none, Cond.fieldLink RX0 7 "CrewPay$Order" "worker" "LCrewPay$Worker;", Cond.fieldLink RX0 13 "CrewPay$Order" "grade" "I", Cond.fieldLink RX0 17 "CrewPay$Order" "left" "I", Cond.fieldLink RX0 20 "CrewPay$Order" "mostOfSlip" "I"]
def wsL_order : List Cond := .codeWith yL_order cL_order 7 (some .int) [(0, 14, 17, 13), (0, 14, 21, 21), (0, 14, 25, 15)] :: ((wsL_order_r1 ++ wsL_order_r2) ++ wsX80 ++ wsX00 ++ (vx_atS RX8 65 "java/lang/IllegalStateException" ["java/lang/RuntimeException", "java/lang/Exception"]).filter goodWord ++ (vx_atS RX8 129 "java/lang/IndexOutOfBoundsException" ["java/lang/RuntimeException", "java/lang/Exception"]).filter goodWord ++ (vx_atS RX8 215 "java/lang/IllegalArgumentException" ["java/lang/RuntimeException", "java/lang/Exception"]).filter goodWord)
def wsL_left : List Cond := .codeWith yL_left cL_left 4 (some .int) [(0, 9, 12, 13)] :: ([.classLink RL 13 "java/lang/IndexOutOfBoundsException", .methodLink RL 44 yX8_left, .instanceMethod yX8_left, .selects RX8 yX8_left yX8_left, .initialized RX8, .code yX8_left cX8_left 3 (some .int), .classLink RX8 125 "java/lang/IndexOutOfBoundsException", .initialized "java/lang/IndexOutOfBoundsException", .fieldLink RX8 29 "CrewPay" "orders" "[LCrewPay$Order;", .fieldLink RX8 147 "CrewPay$Order" "left" "I"] ++ wsX80 ++ wsX00 ++ (vx_atS RX8 129 "java/lang/IndexOutOfBoundsException" ["java/lang/RuntimeException", "java/lang/Exception"]).filter goodWord)
def wsL_setFloor : List Cond := .codeWith yL_setFloor cL_setFloor 4 (some .int) [(0, 9, 12, 21)] :: ([.classLink RL 21 "java/lang/IllegalArgumentException", .methodLink RL 47 yX8_setFloor, .instanceMethod yX8_setFloor, .selects RX8 yX8_setFloor yX8_setFloor, .initialized RX8, .code yX8_setFloor cX8_setFloor 3 (some .int), .constant RX8 138 (10000000), .fieldLink RX8 49 "CrewPay" "floor" "I", .methodLink RX8 97 yX8_checkRange, .static yX8_checkRange, .code yX8_checkRange cX8_checkRange 3 none, .classLink RX8 211 "java/lang/IllegalArgumentException", .initialized "java/lang/IllegalArgumentException"] ++ wsX80 ++ (vx_atS RX8 215 "java/lang/IllegalArgumentException" ["java/lang/RuntimeException", "java/lang/Exception"]).filter goodWord)
def wsL_fill_r1 : List Cond := [Cond.classLink RL 13 "java/lang/IndexOutOfBoundsException", Cond.classLink RL 21 "java/lang/IllegalArgumentException", Cond.classLink RL 15 "java/lang/IllegalStateException", Cond.methodLink RL 50 yX8_fill, Cond.instanceMethod yX8_fill, Cond.selects RX8 yX8_fill yX8_fill, Cond.initialized RX8, Cond.code yX8_fill cX8_fill 4 (some .int), Cond.classLink RX8 61 "java/lang/IllegalStateException", Cond.initialized "java/lang/IllegalStateException", Cond.constant RX8 138 (10000000), Cond.fieldLink RX8 46 "CrewPay" "transferCount" "I", Cond.fieldLink RX8 35 "CrewPay" "transfers" "[LCrewPay$Transfer;", Cond.classLink RX8 33 RX6, Cond.instantiable RX6 3, Cond.initialized RX6, Cond.methodLink RX8 57 yX8_potOf, Cond.instanceMethod yX8_potOf, Cond.selects RX8 yX8_potOf yX8_potOf, Cond.code yX8_potOf cX8_potOf 3 (some (.object "CrewPay$Pot")), Cond.classLink RX8 125 "java/lang/IndexOutOfBoundsException", Cond.initialized "java/lang/IndexOutOfBoundsException", Cond.fieldLink RX8 11 "CrewPay" "pots" "[LCrewPay$Pot;", Cond.methodLink RX8 97 yX8_checkRange]
def wsL_fill_r2 : List Cond := [Cond.static yX8_checkRange, Cond.code yX8_checkRange cX8_checkRange 3 none, Cond.classLink RX8 211 "java/lang/IllegalArgumentException", Cond.initialized "java/lang/IllegalArgumentException", Cond.methodLink RX8 152 yX6_init, Cond.instanceMethod yX6_init, Cond.code yX6_init cX6_init 3 none, Cond.methodLink RX6 1 objectInit, Cond.instanceMethod objectInit, Cond.code objectInit ⟨#[0xb1]⟩ 1 none, Cond.fieldLink RX6 7 "CrewPay$Transfer" "bounced" "Z", Cond.fieldLink RX6 13 "CrewPay$Transfer" "pot" "LCrewPay$Pot;", Cond.fieldLink RX6 17 "CrewPay$Transfer" "amount" "I", Cond.methodLink RX8 155 yX1_receive, Cond.instanceMethod yX1_receive, Cond.selects RX1 yX1_receive yX1_receive, Cond.initialized RX1, Cond.code yX1_receive cX1_receive 3 none, Cond.fieldLink RX1 13 "CrewPay$Pot" "shortage" "I", Cond.methodLink RX1 16 Lib.Math.min.name, Cond.static Lib.Math.min.name, Cond.initialized "java/lang/Math", Cond.code Lib.Math.min.name Lib.Math.min.code 2 (some .int), Cond.fieldLink RX1 7 "CrewPay$Pot" "cents" "I"]
def wsL_fill : List Cond := .codeWith yL_fill cL_fill 5 (some .int) [(0, 10, 13, 13), (0, 10, 17, 21), (0, 10, 21, 15)] :: ((wsL_fill_r1 ++ wsL_fill_r2) ++ wsX80 ++ wsX60 ++ wsX10 ++ (vx_atS RX8 65 "java/lang/IllegalStateException" ["java/lang/RuntimeException", "java/lang/Exception"]).filter goodWord ++ (vx_atS RX8 129 "java/lang/IndexOutOfBoundsException" ["java/lang/RuntimeException", "java/lang/Exception"]).filter goodWord ++ (vx_atS RX8 215 "java/lang/IllegalArgumentException" ["java/lang/RuntimeException", "java/lang/Exception"]).filter goodWord)
def wsL_bounce_r1 : List Cond := [Cond.classLink RL 13 "java/lang/IndexOutOfBoundsException", Cond.classLink RL 15 "java/lang/IllegalStateException", Cond.methodLink RL 53 yX8_bounce, Cond.instanceMethod yX8_bounce, Cond.selects RX8 yX8_bounce yX8_bounce, Cond.initialized RX8, Cond.code yX8_bounce cX8_bounce 3 (some .int), Cond.classLink RX8 125 "java/lang/IndexOutOfBoundsException", Cond.initialized "java/lang/IndexOutOfBoundsException", Cond.classLink RX8 61 "java/lang/IllegalStateException", Cond.initialized "java/lang/IllegalStateException", Cond.fieldLink RX8 35 "CrewPay" "transfers" "[LCrewPay$Transfer;", Cond.fieldLink RX8 160 "CrewPay$Transfer" "bounced" "Z", Cond.fieldLink RX8 166 "CrewPay$Transfer" "pot" "LCrewPay$Pot;", Cond.fieldLink RX8 170 "CrewPay$Transfer" "amount" "I", Cond.fieldLink RX8 176 "CrewPay$Pot" "shortage" "I", Cond.methodLink RX8 173 yX1_lose, Cond.instanceMethod yX1_lose, Cond.selects RX1 yX1_lose yX1_lose, Cond.initialized RX1, Cond.code yX1_lose cX1_lose 3 none, Cond.fieldLink RX1 7 "CrewPay$Pot" "cents" "I", Cond.methodLink RX1 16 Lib.Math.min.name, Cond.static Lib.Math.min.name]
def wsL_bounce_r2 : List Cond := [Cond.initialized "java/lang/Math", Cond.code Lib.Math.min.name Lib.Math.min.code 2 (some .int), Cond.fieldLink RX1 13 "CrewPay$Pot" "shortage" "I"]
def wsL_bounce : List Cond := .codeWith yL_bounce cL_bounce 4 (some .int) [(0, 9, 12, 13), (0, 9, 15, 15)] :: ((wsL_bounce_r1 ++ wsL_bounce_r2) ++ wsX80 ++ wsX60 ++ wsX10 ++ (vx_atS RX8 129 "java/lang/IndexOutOfBoundsException" ["java/lang/RuntimeException", "java/lang/Exception"]).filter goodWord ++ (vx_atS RX8 65 "java/lang/IllegalStateException" ["java/lang/RuntimeException", "java/lang/Exception"]).filter goodWord)
def wsL_pot : List Cond := .codeWith yL_pot cL_pot 4 (some .int) [(0, 9, 12, 13)] :: ([.classLink RL 13 "java/lang/IndexOutOfBoundsException", .methodLink RL 56 yX8_pot, .instanceMethod yX8_pot, .selects RX8 yX8_pot yX8_pot, .initialized RX8, .code yX8_pot cX8_pot 2 (some .int), .fieldLink RX8 179 "CrewPay$Pot" "cents" "I", .methodLink RX8 57 yX8_potOf, .instanceMethod yX8_potOf, .selects RX8 yX8_potOf yX8_potOf, .code yX8_potOf cX8_potOf 3 (some (.object "CrewPay$Pot")), .classLink RX8 125 "java/lang/IndexOutOfBoundsException", .initialized "java/lang/IndexOutOfBoundsException", .fieldLink RX8 11 "CrewPay" "pots" "[LCrewPay$Pot;"] ++ wsX10 ++ wsX80 ++ (vx_atS RX8 129 "java/lang/IndexOutOfBoundsException" ["java/lang/RuntimeException", "java/lang/Exception"]).filter goodWord)
def wsL_shortage : List Cond := .codeWith yL_shortage cL_shortage 4 (some .int) [(0, 9, 12, 13)] :: ([.classLink RL 13 "java/lang/IndexOutOfBoundsException", .methodLink RL 59 yX8_shortage, .instanceMethod yX8_shortage, .selects RX8 yX8_shortage yX8_shortage, .initialized RX8, .code yX8_shortage cX8_shortage 2 (some .int), .fieldLink RX8 176 "CrewPay$Pot" "shortage" "I", .methodLink RX8 57 yX8_potOf, .instanceMethod yX8_potOf, .selects RX8 yX8_potOf yX8_potOf, .code yX8_potOf cX8_potOf 3 (some (.object "CrewPay$Pot")), .classLink RX8 125 "java/lang/IndexOutOfBoundsException", .initialized "java/lang/IndexOutOfBoundsException", .fieldLink RX8 11 "CrewPay" "pots" "[LCrewPay$Pot;"] ++ wsX10 ++ wsX80 ++ (vx_atS RX8 129 "java/lang/IndexOutOfBoundsException" ["java/lang/RuntimeException", "java/lang/Exception"]).filter goodWord)
def wsL_close_r1 : List Cond := [Cond.classLink RL 15 "java/lang/IllegalStateException", Cond.methodLink RL 62 yX8_close, Cond.instanceMethod yX8_close, Cond.selects RX8 yX8_close yX8_close, Cond.initialized RX8, Cond.code yX8_close cX8_close 6 (some .int), Cond.classLink RX8 61 "java/lang/IllegalStateException", Cond.initialized "java/lang/IllegalStateException", Cond.fieldLink RX8 52 "CrewPay" "weekOfNow" "I", Cond.fieldLink RX8 23 "CrewPay" "workers" "[LCrewPay$Worker;", Cond.methodLink RX8 184 yX8_settle, Cond.instanceMethod yX8_settle, Cond.selects RX8 yX8_settle yX8_settle, Cond.code yX8_settle cX8_settle 3 (some .boolean), Cond.fieldLink RX8 229 "CrewPay$Worker" "pot" "LCrewPay$Pot;", Cond.fieldLink RX8 179 "CrewPay$Pot" "cents" "I", Cond.methodLink RX8 195 yX8_claimOf, Cond.instanceMethod yX8_claimOf, Cond.selects RX8 yX8_claimOf yX8_claimOf, Cond.code yX8_claimOf cX8_claimOf 2 (some .int), Cond.fieldLink RX8 223 "CrewPay$Worker" "reckoned" "I", Cond.methodLink RX8 134 yX8_dueBetween, Cond.instanceMethod yX8_dueBetween, Cond.selects RX8 yX8_dueBetween yX8_dueBetween]
def wsL_close_r2 : List Cond := [Cond.code yX8_dueBetween cX8_dueBetween 7 (some .int), Cond.fieldLink RX8 122 "CrewPay$Worker" "counting" "I", Cond.fieldLink RX8 216 "CrewPay$Sheet" "week" "I", Cond.fieldLink RX8 83 "CrewPay$Worker" "rank" "LCrewPay$Rule;", Cond.methodLink RX8 110 yX7_sheet, Cond.instanceMethod yX7_sheet, Cond.selects RX7 yX7_sheet yX7_sheet, Cond.initialized RX7, Cond.code yX7_sheet cX7_sheet 2 (some (.object "CrewPay$Sheet")), Cond.fieldLink RX7 35 "CrewPay$Worker" "sheets" "[LCrewPay$Sheet;", Cond.methodLink RX8 87 yX3_inWeek, Cond.instanceMethod yX3_inWeek, Cond.selects RX3 yX3_inWeek yX3_inWeek, Cond.initialized RX3, Cond.code yX3_inWeek cX3_inWeek 2 (some .int), Cond.fieldLink RX3 9 "CrewPay$Rule" "values" "[I", Cond.methodLink RX8 206 yX8_ratesOrNull, Cond.instanceMethod yX8_ratesOrNull, Cond.selects RX8 yX8_ratesOrNull yX8_ratesOrNull, Cond.code yX8_ratesOrNull cX8_ratesOrNull 2 (some (.object "CrewPay$Rates")), Cond.fieldLink RX8 17 "CrewPay" "ratesByRank" "[LCrewPay$Rates;", Cond.methodLink RX8 219 yX8_payFor, Cond.static yX8_payFor, Cond.code yX8_payFor cX8_payFor 2 (some .int)]
def wsL_close_r3 : List Cond := [Cond.fieldLink RX8 130 "CrewPay$Sheet" "day" "I", Cond.fieldLink RX8 101 "CrewPay$Rates" "day" "LCrewPay$Rule;", Cond.fieldLink RX8 132 "CrewPay$Sheet" "night" "I", Cond.fieldLink RX8 104 "CrewPay$Rates" "night" "LCrewPay$Rule;", Cond.methodLink RX8 226 yX7_owe, Cond.instanceMethod yX7_owe, Cond.selects RX7 yX7_owe yX7_owe, Cond.code yX7_owe cX7_owe 2 none, Cond.fieldLink RX7 27 "CrewPay$Worker" "toTakeBack" "I", Cond.fieldLink RX7 30 "CrewPay$Worker" "everToTakeBack" "I", Cond.fieldLink RX7 24 "CrewPay$Worker" "reckoned" "I", Cond.methodLink RX8 230 yX8_pay, Cond.instanceMethod yX8_pay, Cond.selects RX8 yX8_pay yX8_pay, Cond.code yX8_pay cX8_pay 6 none, Cond.fieldLink RX8 192 "CrewPay$Worker" "toTakeBack" "I", Cond.methodLink RX8 234 Lib.Math.min.name, Cond.static Lib.Math.min.name, Cond.initialized "java/lang/Math", Cond.code Lib.Math.min.name Lib.Math.min.code 2 (some .int), Cond.fieldLink RX8 49 "CrewPay" "floor" "I", Cond.classLink RX8 243 RX5, Cond.instantiable RX5 4, Cond.initialized RX5]
def wsL_close_r4 : List Cond := [Cond.methodLink RX8 239 yX8_garnish, Cond.instanceMethod yX8_garnish, Cond.selects RX8 yX8_garnish yX8_garnish, Cond.code yX8_garnish cX8_garnish 9 (some .int), Cond.fieldLink RX8 29 "CrewPay" "orders" "[LCrewPay$Order;", Cond.fieldLink RX8 252 "CrewPay$Order" "worker" "LCrewPay$Worker;", Cond.fieldLink RX8 256 "CrewPay$Order" "grade" "I", Cond.methodLink RX8 259 yX0_payOff, Cond.instanceMethod yX0_payOff, Cond.selects RX0 yX0_payOff yX0_payOff, Cond.initialized RX0, Cond.code yX0_payOff cX0_payOff 3 (some .int), Cond.fieldLink RX0 17 "CrewPay$Order" "left" "I", Cond.fieldLink RX0 20 "CrewPay$Order" "mostOfSlip" "I", Cond.methodLink RX0 23 Lib.Math.min.name, Cond.methodLink RX0 29 Lib.Math.max.name, Cond.static Lib.Math.max.name, Cond.code Lib.Math.max.name Lib.Math.max.code 2 (some .int), Cond.methodLink RX8 245 yX5_init, Cond.instanceMethod yX5_init, Cond.code yX5_init cX5_init 5 none, Cond.methodLink RX5 3 objectInit, Cond.instanceMethod objectInit, Cond.code objectInit ⟨#[0xb1]⟩ 1 none]
def wsL_close_r5 : List Cond := [Cond.fieldLink RX5 9 "CrewPay$Slip" "gross" "I", Cond.fieldLink RX5 15 "CrewPay$Slip" "takenBack" "I", Cond.fieldLink RX5 18 "CrewPay$Slip" "garnished" "I", Cond.fieldLink RX5 21 "CrewPay$Slip" "paidOut" "I", Cond.methodLink RX8 248 yX7_keepSlip, Cond.instanceMethod yX7_keepSlip, Cond.selects RX7 yX7_keepSlip yX7_keepSlip, Cond.code yX7_keepSlip cX7_keepSlip 3 none, Cond.fieldLink RX7 41 "CrewPay$Worker" "slips" "[LCrewPay$Slip;"]
def wsL_close : List Cond := .codeWith yL_close cL_close 3 (some .int) [(0, 8, 11, 15)] :: ((wsL_close_r1 ++ (wsL_close_r2 ++ (wsL_close_r3 ++ (wsL_close_r4 ++ wsL_close_r5)))) ++ wsX80 ++ wsX70 ++ wsX10 ++ wsX40 ++ wsX30 ++ wsX20 ++ wsX50 ++ wsX00 ++ (vx_atS RX8 65 "java/lang/IllegalStateException" ["java/lang/RuntimeException", "java/lang/Exception"]).filter goodWord)
def wsL_slip_r1 : List Cond := [Cond.classLink RL 13 "java/lang/IndexOutOfBoundsException", Cond.classLink RL 21 "java/lang/IllegalArgumentException", Cond.methodLink RL 66 yX8_slip, Cond.instanceMethod yX8_slip, Cond.selects RX8 yX8_slip yX8_slip, Cond.initialized RX8, Cond.code yX8_slip cX8_slip 5 (some .int), Cond.methodLink RX8 71 yX8_workerOf, Cond.instanceMethod yX8_workerOf, Cond.selects RX8 yX8_workerOf yX8_workerOf, Cond.code yX8_workerOf cX8_workerOf 3 (some (.object "CrewPay$Worker")), Cond.classLink RX8 125 "java/lang/IndexOutOfBoundsException", Cond.initialized "java/lang/IndexOutOfBoundsException", Cond.fieldLink RX8 23 "CrewPay" "workers" "[LCrewPay$Worker;", Cond.methodLink RX8 79 yX8_checkWeek, Cond.static yX8_checkWeek, Cond.code yX8_checkWeek cX8_checkWeek 1 none, Cond.methodLink RX8 97 yX8_checkRange, Cond.static yX8_checkRange, Cond.code yX8_checkRange cX8_checkRange 3 none, Cond.classLink RX8 211 "java/lang/IllegalArgumentException", Cond.initialized "java/lang/IllegalArgumentException", Cond.methodLink RX8 188 yX7_slipPart, Cond.instanceMethod yX7_slipPart]
def wsL_slip_r2 : List Cond := [Cond.selects RX7 yX7_slipPart yX7_slipPart, Cond.initialized RX7, Cond.code yX7_slipPart cX7_slipPart 4 (some .int), Cond.fieldLink RX7 41 "CrewPay$Worker" "slips" "[LCrewPay$Slip;", Cond.methodLink RX7 53 yX5_part, Cond.instanceMethod yX5_part, Cond.selects RX5 yX5_part yX5_part, Cond.initialized RX5, Cond.code yX5_part cX5_part 2 (some .int), Cond.fieldLink RX5 9 "CrewPay$Slip" "gross" "I", Cond.fieldLink RX5 15 "CrewPay$Slip" "takenBack" "I", Cond.fieldLink RX5 18 "CrewPay$Slip" "garnished" "I", Cond.fieldLink RX5 21 "CrewPay$Slip" "paidOut" "I"]
def wsL_slip : List Cond := .codeWith yL_slip cL_slip 6 (some .int) [(0, 12, 15, 13), (0, 12, 19, 21)] :: ((wsL_slip_r1 ++ wsL_slip_r2) ++ wsX80 ++ wsX70 ++ wsX50 ++ (vx_atS RX8 129 "java/lang/IndexOutOfBoundsException" ["java/lang/RuntimeException", "java/lang/Exception"]).filter goodWord ++ (vx_atS RX8 215 "java/lang/IllegalArgumentException" ["java/lang/RuntimeException", "java/lang/Exception"]).filter goodWord)
def wsL_toTakeBack : List Cond := .codeWith yL_toTakeBack cL_toTakeBack 4 (some .int) [(0, 9, 12, 13)] :: ([.classLink RL 13 "java/lang/IndexOutOfBoundsException", .methodLink RL 69 yX8_toTakeBack, .instanceMethod yX8_toTakeBack, .selects RX8 yX8_toTakeBack yX8_toTakeBack, .initialized RX8, .code yX8_toTakeBack cX8_toTakeBack 2 (some .int), .fieldLink RX8 192 "CrewPay$Worker" "toTakeBack" "I", .methodLink RX8 71 yX8_workerOf, .instanceMethod yX8_workerOf, .selects RX8 yX8_workerOf yX8_workerOf, .code yX8_workerOf cX8_workerOf 3 (some (.object "CrewPay$Worker")), .classLink RX8 125 "java/lang/IndexOutOfBoundsException", .initialized "java/lang/IndexOutOfBoundsException", .fieldLink RX8 23 "CrewPay" "workers" "[LCrewPay$Worker;"] ++ wsX70 ++ wsX80 ++ (vx_atS RX8 129 "java/lang/IndexOutOfBoundsException" ["java/lang/RuntimeException", "java/lang/Exception"]).filter goodWord)
def wsL_claim_r1 : List Cond := [Cond.classLink RL 13 "java/lang/IndexOutOfBoundsException", Cond.methodLink RL 72 yX8_claim, Cond.instanceMethod yX8_claim, Cond.selects RX8 yX8_claim yX8_claim, Cond.initialized RX8, Cond.code yX8_claim cX8_claim 2 (some .int), Cond.methodLink RX8 71 yX8_workerOf, Cond.instanceMethod yX8_workerOf, Cond.selects RX8 yX8_workerOf yX8_workerOf, Cond.code yX8_workerOf cX8_workerOf 3 (some (.object "CrewPay$Worker")), Cond.classLink RX8 125 "java/lang/IndexOutOfBoundsException", Cond.initialized "java/lang/IndexOutOfBoundsException", Cond.fieldLink RX8 23 "CrewPay" "workers" "[LCrewPay$Worker;", Cond.methodLink RX8 195 yX8_claimOf, Cond.instanceMethod yX8_claimOf, Cond.selects RX8 yX8_claimOf yX8_claimOf, Cond.code yX8_claimOf cX8_claimOf 2 (some .int), Cond.fieldLink RX8 52 "CrewPay" "weekOfNow" "I", Cond.fieldLink RX8 223 "CrewPay$Worker" "reckoned" "I", Cond.methodLink RX8 134 yX8_dueBetween, Cond.instanceMethod yX8_dueBetween, Cond.selects RX8 yX8_dueBetween yX8_dueBetween, Cond.code yX8_dueBetween cX8_dueBetween 7 (some .int), Cond.fieldLink RX8 122 "CrewPay$Worker" "counting" "I"]
def wsL_claim_r2 : List Cond := [Cond.fieldLink RX8 216 "CrewPay$Sheet" "week" "I", Cond.fieldLink RX8 83 "CrewPay$Worker" "rank" "LCrewPay$Rule;", Cond.methodLink RX8 110 yX7_sheet, Cond.instanceMethod yX7_sheet, Cond.selects RX7 yX7_sheet yX7_sheet, Cond.initialized RX7, Cond.code yX7_sheet cX7_sheet 2 (some (.object "CrewPay$Sheet")), Cond.fieldLink RX7 35 "CrewPay$Worker" "sheets" "[LCrewPay$Sheet;", Cond.methodLink RX8 87 yX3_inWeek, Cond.instanceMethod yX3_inWeek, Cond.selects RX3 yX3_inWeek yX3_inWeek, Cond.initialized RX3, Cond.code yX3_inWeek cX3_inWeek 2 (some .int), Cond.fieldLink RX3 9 "CrewPay$Rule" "values" "[I", Cond.methodLink RX8 206 yX8_ratesOrNull, Cond.instanceMethod yX8_ratesOrNull, Cond.selects RX8 yX8_ratesOrNull yX8_ratesOrNull, Cond.code yX8_ratesOrNull cX8_ratesOrNull 2 (some (.object "CrewPay$Rates")), Cond.fieldLink RX8 17 "CrewPay" "ratesByRank" "[LCrewPay$Rates;", Cond.methodLink RX8 219 yX8_payFor, Cond.static yX8_payFor, Cond.code yX8_payFor cX8_payFor 2 (some .int), Cond.fieldLink RX8 130 "CrewPay$Sheet" "day" "I", Cond.fieldLink RX8 101 "CrewPay$Rates" "day" "LCrewPay$Rule;"]
def wsL_claim_r3 : List Cond := [Cond.fieldLink RX8 132 "CrewPay$Sheet" "night" "I", Cond.fieldLink RX8 104 "CrewPay$Rates" "night" "LCrewPay$Rule;"]
def wsL_claim : List Cond := .codeWith yL_claim cL_claim 4 (some .int) [(0, 9, 12, 13)] :: ((wsL_claim_r1 ++ (wsL_claim_r2 ++ wsL_claim_r3)) ++ wsX80 ++ wsX70 ++ wsX40 ++ wsX30 ++ wsX20 ++ (vx_atS RX8 129 "java/lang/IndexOutOfBoundsException" ["java/lang/RuntimeException", "java/lang/Exception"]).filter goodWord)
def wsL_claimBySlips_r1 : List Cond := [Cond.classLink RL 13 "java/lang/IndexOutOfBoundsException", Cond.methodLink RL 75 yX8_claimBySlips, Cond.instanceMethod yX8_claimBySlips, Cond.selects RX8 yX8_claimBySlips yX8_claimBySlips, Cond.initialized RX8, Cond.code yX8_claimBySlips cX8_claimBySlips 5 (some .int), Cond.fieldLink RX8 52 "CrewPay" "weekOfNow" "I", Cond.fieldLink RX8 199 "CrewPay$Worker" "everToTakeBack" "I", Cond.methodLink RX8 71 yX8_workerOf, Cond.instanceMethod yX8_workerOf, Cond.selects RX8 yX8_workerOf yX8_workerOf, Cond.code yX8_workerOf cX8_workerOf 3 (some (.object "CrewPay$Worker")), Cond.classLink RX8 125 "java/lang/IndexOutOfBoundsException", Cond.initialized "java/lang/IndexOutOfBoundsException", Cond.fieldLink RX8 23 "CrewPay" "workers" "[LCrewPay$Worker;", Cond.methodLink RX8 134 yX8_dueBetween, Cond.instanceMethod yX8_dueBetween, Cond.selects RX8 yX8_dueBetween yX8_dueBetween, Cond.code yX8_dueBetween cX8_dueBetween 7 (some .int), Cond.fieldLink RX8 122 "CrewPay$Worker" "counting" "I", Cond.fieldLink RX8 216 "CrewPay$Sheet" "week" "I", Cond.fieldLink RX8 83 "CrewPay$Worker" "rank" "LCrewPay$Rule;", Cond.methodLink RX8 110 yX7_sheet, Cond.instanceMethod yX7_sheet]
def wsL_claimBySlips_r2 : List Cond := [Cond.selects RX7 yX7_sheet yX7_sheet, Cond.initialized RX7, Cond.code yX7_sheet cX7_sheet 2 (some (.object "CrewPay$Sheet")), Cond.fieldLink RX7 35 "CrewPay$Worker" "sheets" "[LCrewPay$Sheet;", Cond.methodLink RX8 87 yX3_inWeek, Cond.instanceMethod yX3_inWeek, Cond.selects RX3 yX3_inWeek yX3_inWeek, Cond.initialized RX3, Cond.code yX3_inWeek cX3_inWeek 2 (some .int), Cond.fieldLink RX3 9 "CrewPay$Rule" "values" "[I", Cond.methodLink RX8 206 yX8_ratesOrNull, Cond.instanceMethod yX8_ratesOrNull, Cond.selects RX8 yX8_ratesOrNull yX8_ratesOrNull, Cond.code yX8_ratesOrNull cX8_ratesOrNull 2 (some (.object "CrewPay$Rates")), Cond.fieldLink RX8 17 "CrewPay" "ratesByRank" "[LCrewPay$Rates;", Cond.methodLink RX8 219 yX8_payFor, Cond.static yX8_payFor, Cond.code yX8_payFor cX8_payFor 2 (some .int), Cond.fieldLink RX8 130 "CrewPay$Sheet" "day" "I", Cond.fieldLink RX8 101 "CrewPay$Rates" "day" "LCrewPay$Rule;", Cond.fieldLink RX8 132 "CrewPay$Sheet" "night" "I", Cond.fieldLink RX8 104 "CrewPay$Rates" "night" "LCrewPay$Rule;", Cond.methodLink RX8 188 yX7_slipPart, Cond.instanceMethod yX7_slipPart]
def wsL_claimBySlips_r3 : List Cond := [Cond.selects RX7 yX7_slipPart yX7_slipPart, Cond.code yX7_slipPart cX7_slipPart 4 (some .int), Cond.fieldLink RX7 41 "CrewPay$Worker" "slips" "[LCrewPay$Slip;", Cond.methodLink RX7 53 yX5_part, Cond.instanceMethod yX5_part, Cond.selects RX5 yX5_part yX5_part, Cond.initialized RX5, Cond.code yX5_part cX5_part 2 (some .int), Cond.fieldLink RX5 9 "CrewPay$Slip" "gross" "I", Cond.fieldLink RX5 15 "CrewPay$Slip" "takenBack" "I", Cond.fieldLink RX5 18 "CrewPay$Slip" "garnished" "I", Cond.fieldLink RX5 21 "CrewPay$Slip" "paidOut" "I"]
def wsL_claimBySlips : List Cond := .codeWith yL_claimBySlips cL_claimBySlips 4 (some .int) [(0, 9, 12, 13)] :: ((wsL_claimBySlips_r1 ++ (wsL_claimBySlips_r2 ++ wsL_claimBySlips_r3)) ++ wsX80 ++ wsX70 ++ wsX40 ++ wsX30 ++ wsX20 ++ wsX50 ++ (vx_atS RX8 129 "java/lang/IndexOutOfBoundsException" ["java/lang/RuntimeException", "java/lang/Exception"]).filter goodWord)
def wsL_law0_r1 : List Cond := [Cond.classLink RL 8 RX8, Cond.instantiable RX8 10, Cond.initialized RX8, Cond.classLink RL 79 RX9, Cond.instantiable RX9 25, Cond.initialized RX9, Cond.arrayClass .long, Cond.methodLink RL 78 yX8_init, Cond.instanceMethod yX8_init, Cond.code yX8_init cX8_init 2 none, Cond.methodLink RX8 1 objectInit, Cond.instanceMethod objectInit, Cond.code objectInit ⟨#[0xb1]⟩ 1 none, Cond.classLink RX8 9 RX1, Cond.fieldLink RX8 11 "CrewPay" "pots" "[LCrewPay$Pot;", Cond.classLink RX8 15 RX2, Cond.fieldLink RX8 17 "CrewPay" "ratesByRank" "[LCrewPay$Rates;", Cond.classLink RX8 21 RX7, Cond.fieldLink RX8 23 "CrewPay" "workers" "[LCrewPay$Worker;", Cond.classLink RX8 27 RX0, Cond.fieldLink RX8 29 "CrewPay" "orders" "[LCrewPay$Order;", Cond.classLink RX8 33 RX6, Cond.fieldLink RX8 35 "CrewPay" "transfers" "[LCrewPay$Transfer;", Cond.fieldLink RX8 39 "CrewPay" "workerCount" "I"]
def wsL_law0_r2 : List Cond := [Cond.fieldLink RX8 43 "CrewPay" "orderCount" "I", Cond.fieldLink RX8 46 "CrewPay" "transferCount" "I", Cond.fieldLink RX8 49 "CrewPay" "floor" "I", Cond.fieldLink RX8 52 "CrewPay" "weekOfNow" "I", Cond.instantiable RX1 2, Cond.initialized RX1, Cond.instantiable RX2 2, Cond.initialized RX2, Cond.instanceMethod yX1_init, Cond.code yX1_init cX1_init 1 none, Cond.methodLink RX1 1 objectInit, Cond.fieldLink RX1 7 "CrewPay$Pot" "cents" "I", Cond.fieldLink RX1 13 "CrewPay$Pot" "shortage" "I", Cond.instanceMethod yX2_init, Cond.code yX2_init cX2_init 1 none, Cond.methodLink RX2 3 objectInit, Cond.classLink RX2 9 RX3, Cond.instantiable RX3 2, Cond.initialized RX3, Cond.fieldLink RX2 14 "CrewPay$Rates" "day" "LCrewPay$Rule;", Cond.fieldLink RX2 20 "CrewPay$Rates" "night" "LCrewPay$Rule;", Cond.methodLink RX2 11 yX3_init, Cond.instanceMethod yX3_init, Cond.code yX3_init cX3_init 3 none]
def wsL_law0_r3 : List Cond := [Cond.methodLink RX3 3 objectInit, Cond.arrayClass .int, Cond.fieldLink RX3 9 "CrewPay$Rule" "values" "[I", Cond.arrayClass .boolean, Cond.fieldLink RX3 15 "CrewPay$Rule" "told" "[Z", Cond.methodLink RL 81 yX9_init, Cond.instanceMethod yX9_init, Cond.code yX9_init cX9_init 2 none, Cond.methodLink RX9 1 objectInit, Cond.fieldLink RX9 7 "CrewPayModel" "employers" "[I", Cond.fieldLink RX9 13 "CrewPayModel" "ranks" "[I", Cond.fieldLink RX9 16 "CrewPayModel" "days" "[I", Cond.fieldLink RX9 19 "CrewPayModel" "nights" "[I", Cond.fieldLink RX9 22 "CrewPayModel" "sheetWeeks" "[I", Cond.fieldLink RX9 25 "CrewPayModel" "dayHours" "[I", Cond.fieldLink RX9 28 "CrewPayModel" "nightHours" "[I", Cond.fieldLink RX9 31 "CrewPayModel" "reckoned" "[I", Cond.fieldLink RX9 34 "CrewPayModel" "toTakeBack" "[I", Cond.fieldLink RX9 37 "CrewPayModel" "slips" "[I", Cond.fieldLink RX9 40 "CrewPayModel" "orderWorkers" "[I", Cond.fieldLink RX9 43 "CrewPayModel" "grades" "[I", Cond.fieldLink RX9 46 "CrewPayModel" "lefts" "[I", Cond.fieldLink RX9 49 "CrewPayModel" "parts" "[I", Cond.fieldLink RX9 52 "CrewPayModel" "floor" "I"]
def wsL_law0_r4 : List Cond := [Cond.fieldLink RX9 56 "CrewPayModel" "pots" "[I", Cond.fieldLink RX9 59 "CrewPayModel" "shortages" "[I", Cond.fieldLink RX9 62 "CrewPayModel" "transferTo" "[I", Cond.fieldLink RX9 65 "CrewPayModel" "transferred" "[I", Cond.fieldLink RX9 68 "CrewPayModel" "haveBounced" "[Z", Cond.methodLink RL 82 yL_addWorker, Cond.static yL_addWorker, Cond.initialized RL, Cond.codeWith yL_addWorker cL_addWorker 4 (some .int) [(0, 9, 12, 13), (0, 9, 15, 15)], Cond.classLink RL 13 "java/lang/IndexOutOfBoundsException", Cond.classLink RL 15 "java/lang/IllegalStateException", Cond.methodLink RL 7 yX8_addWorker, Cond.instanceMethod yX8_addWorker, Cond.selects RX8 yX8_addWorker yX8_addWorker, Cond.code yX8_addWorker cX8_addWorker 3 (some .int), Cond.classLink RX8 61 "java/lang/IllegalStateException", Cond.initialized "java/lang/IllegalStateException", Cond.instantiable RX7 8, Cond.initialized RX7, Cond.methodLink RX8 57 yX8_potOf, Cond.instanceMethod yX8_potOf, Cond.selects RX8 yX8_potOf yX8_potOf, Cond.code yX8_potOf cX8_potOf 3 (some (.object "CrewPay$Pot")), Cond.classLink RX8 125 "java/lang/IndexOutOfBoundsException"]
def wsL_law0_r5 : List Cond := [Cond.initialized "java/lang/IndexOutOfBoundsException", Cond.methodLink RX8 68 yX7_init, Cond.instanceMethod yX7_init, Cond.code yX7_init cX7_init 2 none, Cond.methodLink RX7 3 objectInit, Cond.classLink RX7 9 RX3, Cond.fieldLink RX7 14 "CrewPay$Worker" "rank" "LCrewPay$Rule;", Cond.fieldLink RX7 20 "CrewPay$Worker" "counting" "I", Cond.fieldLink RX7 24 "CrewPay$Worker" "reckoned" "I", Cond.fieldLink RX7 27 "CrewPay$Worker" "toTakeBack" "I", Cond.fieldLink RX7 30 "CrewPay$Worker" "everToTakeBack" "I", Cond.classLink RX7 33 RX4, Cond.fieldLink RX7 35 "CrewPay$Worker" "sheets" "[LCrewPay$Sheet;", Cond.classLink RX7 39 RX5, Cond.fieldLink RX7 41 "CrewPay$Worker" "slips" "[LCrewPay$Slip;", Cond.fieldLink RX7 45 "CrewPay$Worker" "pot" "LCrewPay$Pot;", Cond.methodLink RX7 11 yX3_init, Cond.methodLink RL 87 yX9_addWorker, Cond.instanceMethod yX9_addWorker, Cond.selects RX9 yX9_addWorker yX9_addWorker, Cond.code yX9_addWorker cX9_addWorker 2 (some .int), Cond.fieldLink RX9 75 "CrewPayModel" "workers" "I", Cond.methodLink RX9 78 yX9_in, Cond.static yX9_in]
def wsL_law0_r6 : List Cond := [Cond.code yX9_in cX9_in 3 (some .boolean), Cond.methodLink RX9 82 yX9_holds, Cond.instanceMethod yX9_holds, Cond.selects RX9 yX9_holds yX9_holds, Cond.code yX9_holds cX9_holds 2 (some .boolean), Cond.fieldLink RX9 72 "CrewPayModel" "thrown" "I", Cond.methodLink RL 88 yX9_thrown, Cond.instanceMethod yX9_thrown, Cond.selects RX9 yX9_thrown yX9_thrown, Cond.code yX9_thrown cX9_thrown 1 (some .int), Cond.methodLink RL 91 yL_setRank, Cond.static yL_setRank, Cond.codeWith yL_setRank cL_setRank 6 (some .int) [(0, 12, 15, 13), (0, 12, 19, 21)], Cond.classLink RL 21 "java/lang/IllegalArgumentException", Cond.methodLink RL 17 yX8_setRank, Cond.instanceMethod yX8_setRank, Cond.selects RX8 yX8_setRank yX8_setRank, Cond.code yX8_setRank cX8_setRank 6 (some .int), Cond.fieldLink RX8 83 "CrewPay$Worker" "rank" "LCrewPay$Rule;", Cond.methodLink RX8 71 yX8_workerOf, Cond.instanceMethod yX8_workerOf, Cond.selects RX8 yX8_workerOf yX8_workerOf, Cond.code yX8_workerOf cX8_workerOf 3 (some (.object "CrewPay$Worker")), Cond.methodLink RX8 75 yX8_ratesOf]
def wsL_law0_r7 : List Cond := [Cond.instanceMethod yX8_ratesOf, Cond.selects RX8 yX8_ratesOf yX8_ratesOf, Cond.code yX8_ratesOf cX8_ratesOf 3 (some (.object "CrewPay$Rates")), Cond.methodLink RX8 206 yX8_ratesOrNull, Cond.instanceMethod yX8_ratesOrNull, Cond.selects RX8 yX8_ratesOrNull yX8_ratesOrNull, Cond.code yX8_ratesOrNull cX8_ratesOrNull 2 (some (.object "CrewPay$Rates")), Cond.methodLink RX8 79 yX8_checkWeek, Cond.static yX8_checkWeek, Cond.code yX8_checkWeek cX8_checkWeek 1 none, Cond.methodLink RX8 97 yX8_checkRange, Cond.static yX8_checkRange, Cond.code yX8_checkRange cX8_checkRange 3 none, Cond.classLink RX8 211 "java/lang/IllegalArgumentException", Cond.initialized "java/lang/IllegalArgumentException", Cond.methodLink RX8 87 yX3_inWeek, Cond.instanceMethod yX3_inWeek, Cond.selects RX3 yX3_inWeek yX3_inWeek, Cond.code yX3_inWeek cX3_inWeek 2 (some .int), Cond.methodLink RX8 93 yX3_tell, Cond.instanceMethod yX3_tell, Cond.selects RX3 yX3_tell yX3_tell, Cond.code yX3_tell cX3_tell 4 none, Cond.methodLink RL 94 yX9_setRank]
def wsL_law0_r8 : List Cond := [Cond.instanceMethod yX9_setRank, Cond.selects RX9 yX9_setRank yX9_setRank, Cond.code yX9_setRank cX9_setRank 6 (some .int), Cond.methodLink RX9 86 yX9_isWorker, Cond.instanceMethod yX9_isWorker, Cond.selects RX9 yX9_isWorker yX9_isWorker, Cond.code yX9_isWorker cX9_isWorker 2 (some .boolean), Cond.methodLink RX9 89 yX9_isWeek, Cond.static yX9_isWeek, Cond.code yX9_isWeek cX9_isWeek 1 (some .boolean), Cond.methodLink RX9 92 yX9_told, Cond.static yX9_told, Cond.code yX9_told cX9_told 4 (some .int), Cond.methodLink RL 95 yL_setRates, Cond.static yL_setRates, Cond.codeWith yL_setRates cL_setRates 7 (some .int) [(0, 14, 17, 13), (0, 14, 21, 21)], Cond.methodLink RL 23 yX8_setRates, Cond.instanceMethod yX8_setRates, Cond.selects RX8 yX8_setRates yX8_setRates, Cond.code yX8_setRates cX8_setRates 7 (some .int), Cond.fieldLink RX8 101 "CrewPay$Rates" "day" "LCrewPay$Rule;", Cond.fieldLink RX8 104 "CrewPay$Rates" "night" "LCrewPay$Rule;", Cond.methodLink RL 98 yX9_setRates, Cond.instanceMethod yX9_setRates]
def wsL_law0_r9 : List Cond := [Cond.selects RX9 yX9_setRates yX9_setRates, Cond.code yX9_setRates cX9_setRates 7 (some .int), Cond.methodLink RL 99 yL_come, Cond.static yL_come, Cond.codeWith yL_come cL_come 8 (some .int) [(0, 16, 19, 13), (0, 16, 23, 21)], Cond.methodLink RL 27 yX8_come, Cond.instanceMethod yX8_come, Cond.selects RX8 yX8_come yX8_come, Cond.code yX8_come cX8_come 7 (some .int), Cond.classLink RX8 114 RX4, Cond.instantiable RX4 3, Cond.initialized RX4, Cond.fieldLink RX8 122 "CrewPay$Worker" "counting" "I", Cond.methodLink RX8 107 yX8_checkHours, Cond.static yX8_checkHours, Cond.code yX8_checkHours cX8_checkHours 2 none, Cond.methodLink RX8 110 yX7_sheet, Cond.instanceMethod yX7_sheet, Cond.selects RX7 yX7_sheet yX7_sheet, Cond.code yX7_sheet cX7_sheet 2 (some (.object "CrewPay$Sheet")), Cond.methodLink RX8 116 yX4_init, Cond.instanceMethod yX4_init, Cond.code yX4_init cX4_init 4 none, Cond.methodLink RX4 1 objectInit]
def wsL_law0_r10 : List Cond := [Cond.fieldLink RX4 7 "CrewPay$Sheet" "week" "I", Cond.fieldLink RX4 13 "CrewPay$Sheet" "day" "I", Cond.fieldLink RX4 16 "CrewPay$Sheet" "night" "I", Cond.methodLink RX8 118 yX7_take, Cond.instanceMethod yX7_take, Cond.selects RX7 yX7_take yX7_take, Cond.code yX7_take cX7_take 3 none, Cond.methodLink RX7 49 yX7_sheet, Cond.methodLink RL 102 yX9_come, Cond.instanceMethod yX9_come, Cond.selects RX9 yX9_come yX9_come, Cond.code yX9_come cX9_come 8 (some .int), Cond.methodLink RX9 96 yX9_areHours, Cond.static yX9_areHours, Cond.code yX9_areHours cX9_areHours 2 (some .boolean), Cond.methodLink RX9 100 yX9_counting, Cond.instanceMethod yX9_counting, Cond.selects RX9 yX9_counting yX9_counting, Cond.code yX9_counting cX9_counting 3 (some .int), Cond.methodLink RL 103 yL_correct, Cond.static yL_correct, Cond.codeWith yL_correct cL_correct 7 (some .int) [(0, 14, 17, 13), (0, 14, 21, 21)], Cond.methodLink RL 31 yX8_correct, Cond.instanceMethod yX8_correct]
def wsL_law0_r11 : List Cond := [Cond.selects RX8 yX8_correct yX8_correct, Cond.code yX8_correct cX8_correct 7 (some .int), Cond.fieldLink RX8 130 "CrewPay$Sheet" "day" "I", Cond.fieldLink RX8 132 "CrewPay$Sheet" "night" "I", Cond.methodLink RL 105 yX9_correct, Cond.instanceMethod yX9_correct, Cond.selects RX9 yX9_correct yX9_correct, Cond.code yX9_correct cX9_correct 8 (some .int), Cond.methodLink RL 106 yL_acknowledged, Cond.static yL_acknowledged, Cond.codeWith yL_acknowledged cL_acknowledged 4 (some .int) [(0, 9, 12, 13)], Cond.methodLink RL 34 yX8_acknowledged, Cond.instanceMethod yX8_acknowledged, Cond.selects RX8 yX8_acknowledged yX8_acknowledged, Cond.code yX8_acknowledged cX8_acknowledged 2 (some .int), Cond.methodLink RL 108 yX9_acknowledged, Cond.instanceMethod yX9_acknowledged, Cond.selects RX9 yX9_acknowledged yX9_acknowledged, Cond.code yX9_acknowledged cX9_acknowledged 2 (some .int), Cond.methodLink RL 109 yL_due, Cond.static yL_due, Cond.codeWith yL_due cL_due 5 (some .int) [(0, 10, 13, 13), (0, 10, 17, 21)], Cond.methodLink RL 37 yX8_due, Cond.instanceMethod yX8_due]
def wsL_law0_r12 : List Cond := [Cond.selects RX8 yX8_due yX8_due, Cond.code yX8_due cX8_due 4 (some .int), Cond.methodLink RX8 134 yX8_dueBetween, Cond.instanceMethod yX8_dueBetween, Cond.selects RX8 yX8_dueBetween yX8_dueBetween, Cond.code yX8_dueBetween cX8_dueBetween 7 (some .int), Cond.fieldLink RX8 216 "CrewPay$Sheet" "week" "I", Cond.methodLink RX8 219 yX8_payFor, Cond.static yX8_payFor, Cond.code yX8_payFor cX8_payFor 2 (some .int), Cond.methodLink RL 112 yX9_due, Cond.instanceMethod yX9_due, Cond.selects RX9 yX9_due yX9_due, Cond.code yX9_due cX9_due 3 (some .int), Cond.methodLink RX9 104 yX9_dueFor, Cond.instanceMethod yX9_dueFor, Cond.selects RX9 yX9_dueFor yX9_dueFor, Cond.code yX9_dueFor cX9_dueFor 8 (some .int), Cond.methodLink RL 113 yL_order, Cond.static yL_order, Cond.codeWith yL_order cL_order 7 (some .int) [(0, 14, 17, 13), (0, 14, 21, 21), (0, 14, 25, 15)], Cond.methodLink RL 41 yX8_order, Cond.instanceMethod yX8_order, Cond.selects RX8 yX8_order yX8_order]
def wsL_law0_r13 : List Cond := [Cond.code yX8_order cX8_order 6 (some .int), Cond.constant RX8 138 (10000000), Cond.constant RX8 139 (1000000), Cond.instantiable RX0 4, Cond.initialized RX0, Cond.methodLink RX8 142 yX0_init, Cond.instanceMethod yX0_init, Cond.code yX0_init cX0_init 5 none, Cond.methodLink RX0 1 objectInit, Cond.fieldLink RX0 7 "CrewPay$Order" "worker" "LCrewPay$Worker;", Cond.fieldLink RX0 13 "CrewPay$Order" "grade" "I", Cond.fieldLink RX0 17 "CrewPay$Order" "left" "I", Cond.fieldLink RX0 20 "CrewPay$Order" "mostOfSlip" "I", Cond.methodLink RL 115 yX9_order, Cond.instanceMethod yX9_order, Cond.selects RX9 yX9_order yX9_order, Cond.code yX9_order cX9_order 6 (some .int), Cond.constant RX9 108 (10000000), Cond.constant RX9 109 (1000000), Cond.fieldLink RX9 110 "CrewPayModel" "orders" "I", Cond.methodLink RL 116 yL_left, Cond.static yL_left, Cond.codeWith yL_left cL_left 4 (some .int) [(0, 9, 12, 13)], Cond.methodLink RL 44 yX8_left]
def wsL_law0_r14 : List Cond := [Cond.instanceMethod yX8_left, Cond.selects RX8 yX8_left yX8_left, Cond.code yX8_left cX8_left 3 (some .int), Cond.fieldLink RX8 147 "CrewPay$Order" "left" "I", Cond.methodLink RL 118 yX9_left, Cond.instanceMethod yX9_left, Cond.selects RX9 yX9_left yX9_left, Cond.code yX9_left cX9_left 2 (some .int), Cond.methodLink RL 119 yL_setFloor, Cond.static yL_setFloor, Cond.codeWith yL_setFloor cL_setFloor 4 (some .int) [(0, 9, 12, 21)], Cond.methodLink RL 47 yX8_setFloor, Cond.instanceMethod yX8_setFloor, Cond.selects RX8 yX8_setFloor yX8_setFloor, Cond.code yX8_setFloor cX8_setFloor 3 (some .int), Cond.methodLink RL 121 yX9_setFloor, Cond.instanceMethod yX9_setFloor, Cond.selects RX9 yX9_setFloor yX9_setFloor, Cond.code yX9_setFloor cX9_setFloor 3 (some .int), Cond.methodLink RL 122 yL_fill, Cond.static yL_fill, Cond.codeWith yL_fill cL_fill 5 (some .int) [(0, 10, 13, 13), (0, 10, 17, 21), (0, 10, 21, 15)], Cond.methodLink RL 50 yX8_fill, Cond.instanceMethod yX8_fill]
def wsL_law0_r15 : List Cond := [Cond.selects RX8 yX8_fill yX8_fill, Cond.code yX8_fill cX8_fill 4 (some .int), Cond.instantiable RX6 3, Cond.initialized RX6, Cond.methodLink RX8 152 yX6_init, Cond.instanceMethod yX6_init, Cond.code yX6_init cX6_init 3 none, Cond.methodLink RX6 1 objectInit, Cond.fieldLink RX6 7 "CrewPay$Transfer" "bounced" "Z", Cond.fieldLink RX6 13 "CrewPay$Transfer" "pot" "LCrewPay$Pot;", Cond.fieldLink RX6 17 "CrewPay$Transfer" "amount" "I", Cond.methodLink RX8 155 yX1_receive, Cond.instanceMethod yX1_receive, Cond.selects RX1 yX1_receive yX1_receive, Cond.code yX1_receive cX1_receive 3 none, Cond.methodLink RX1 16 Lib.Math.min.name, Cond.static Lib.Math.min.name, Cond.initialized "java/lang/Math", Cond.code Lib.Math.min.name Lib.Math.min.code 2 (some .int), Cond.methodLink RL 124 yX9_fill, Cond.instanceMethod yX9_fill, Cond.selects RX9 yX9_fill yX9_fill, Cond.code yX9_fill cX9_fill 4 (some .int), Cond.fieldLink RX9 116 "CrewPayModel" "transfers" "I"]
def wsL_law0_r16 : List Cond := [Cond.methodLink RX9 113 yX9_isEmployer, Cond.static yX9_isEmployer, Cond.code yX9_isEmployer cX9_isEmployer 1 (some .boolean), Cond.methodLink RX9 119 yX9_least, Cond.static yX9_least, Cond.code yX9_least cX9_least 2 (some .int), Cond.methodLink RL 125 yL_bounce, Cond.static yL_bounce, Cond.codeWith yL_bounce cL_bounce 4 (some .int) [(0, 9, 12, 13), (0, 9, 15, 15)], Cond.methodLink RL 53 yX8_bounce, Cond.instanceMethod yX8_bounce, Cond.selects RX8 yX8_bounce yX8_bounce, Cond.code yX8_bounce cX8_bounce 3 (some .int), Cond.fieldLink RX8 160 "CrewPay$Transfer" "bounced" "Z", Cond.fieldLink RX8 166 "CrewPay$Transfer" "pot" "LCrewPay$Pot;", Cond.fieldLink RX8 170 "CrewPay$Transfer" "amount" "I", Cond.fieldLink RX8 176 "CrewPay$Pot" "shortage" "I", Cond.methodLink RX8 173 yX1_lose, Cond.instanceMethod yX1_lose, Cond.selects RX1 yX1_lose yX1_lose, Cond.code yX1_lose cX1_lose 3 none, Cond.methodLink RL 127 yX9_bounce, Cond.instanceMethod yX9_bounce, Cond.selects RX9 yX9_bounce yX9_bounce]
def wsL_law0_r17 : List Cond := [Cond.code yX9_bounce cX9_bounce 5 (some .int), Cond.methodLink RL 128 yL_pot, Cond.static yL_pot, Cond.codeWith yL_pot cL_pot 4 (some .int) [(0, 9, 12, 13)], Cond.methodLink RL 56 yX8_pot, Cond.instanceMethod yX8_pot, Cond.selects RX8 yX8_pot yX8_pot, Cond.code yX8_pot cX8_pot 2 (some .int), Cond.fieldLink RX8 179 "CrewPay$Pot" "cents" "I", Cond.methodLink RL 130 yX9_pot, Cond.instanceMethod yX9_pot, Cond.selects RX9 yX9_pot yX9_pot, Cond.code yX9_pot cX9_pot 2 (some .int), Cond.methodLink RL 131 yL_shortage, Cond.static yL_shortage, Cond.codeWith yL_shortage cL_shortage 4 (some .int) [(0, 9, 12, 13)], Cond.methodLink RL 59 yX8_shortage, Cond.instanceMethod yX8_shortage, Cond.selects RX8 yX8_shortage yX8_shortage, Cond.code yX8_shortage cX8_shortage 2 (some .int), Cond.methodLink RL 133 yX9_shortage, Cond.instanceMethod yX9_shortage, Cond.selects RX9 yX9_shortage yX9_shortage, Cond.code yX9_shortage cX9_shortage 2 (some .int)]
def wsL_law0_r18 : List Cond := [Cond.methodLink RL 134 yL_close, Cond.static yL_close, Cond.codeWith yL_close cL_close 3 (some .int) [(0, 8, 11, 15)], Cond.methodLink RL 62 yX8_close, Cond.instanceMethod yX8_close, Cond.selects RX8 yX8_close yX8_close, Cond.code yX8_close cX8_close 6 (some .int), Cond.methodLink RX8 184 yX8_settle, Cond.instanceMethod yX8_settle, Cond.selects RX8 yX8_settle yX8_settle, Cond.code yX8_settle cX8_settle 3 (some .boolean), Cond.fieldLink RX8 229 "CrewPay$Worker" "pot" "LCrewPay$Pot;", Cond.methodLink RX8 195 yX8_claimOf, Cond.instanceMethod yX8_claimOf, Cond.selects RX8 yX8_claimOf yX8_claimOf, Cond.code yX8_claimOf cX8_claimOf 2 (some .int), Cond.fieldLink RX8 223 "CrewPay$Worker" "reckoned" "I", Cond.methodLink RX8 226 yX7_owe, Cond.instanceMethod yX7_owe, Cond.selects RX7 yX7_owe yX7_owe, Cond.code yX7_owe cX7_owe 2 none, Cond.methodLink RX8 230 yX8_pay, Cond.instanceMethod yX8_pay, Cond.selects RX8 yX8_pay yX8_pay]
def wsL_law0_r19 : List Cond := [Cond.code yX8_pay cX8_pay 6 none, Cond.fieldLink RX8 192 "CrewPay$Worker" "toTakeBack" "I", Cond.methodLink RX8 234 Lib.Math.min.name, Cond.classLink RX8 243 RX5, Cond.instantiable RX5 4, Cond.initialized RX5, Cond.methodLink RX8 239 yX8_garnish, Cond.instanceMethod yX8_garnish, Cond.selects RX8 yX8_garnish yX8_garnish, Cond.code yX8_garnish cX8_garnish 9 (some .int), Cond.fieldLink RX8 252 "CrewPay$Order" "worker" "LCrewPay$Worker;", Cond.fieldLink RX8 256 "CrewPay$Order" "grade" "I", Cond.methodLink RX8 259 yX0_payOff, Cond.instanceMethod yX0_payOff, Cond.selects RX0 yX0_payOff yX0_payOff, Cond.code yX0_payOff cX0_payOff 3 (some .int), Cond.methodLink RX0 23 Lib.Math.min.name, Cond.methodLink RX0 29 Lib.Math.max.name, Cond.static Lib.Math.max.name, Cond.code Lib.Math.max.name Lib.Math.max.code 2 (some .int), Cond.methodLink RX8 245 yX5_init, Cond.instanceMethod yX5_init, Cond.code yX5_init cX5_init 5 none, Cond.methodLink RX5 3 objectInit]
def wsL_law0_r20 : List Cond := [Cond.fieldLink RX5 9 "CrewPay$Slip" "gross" "I", Cond.fieldLink RX5 15 "CrewPay$Slip" "takenBack" "I", Cond.fieldLink RX5 18 "CrewPay$Slip" "garnished" "I", Cond.fieldLink RX5 21 "CrewPay$Slip" "paidOut" "I", Cond.methodLink RX8 248 yX7_keepSlip, Cond.instanceMethod yX7_keepSlip, Cond.selects RX7 yX7_keepSlip yX7_keepSlip, Cond.code yX7_keepSlip cX7_keepSlip 3 none, Cond.methodLink RL 137 yX9_close, Cond.instanceMethod yX9_close, Cond.selects RX9 yX9_close yX9_close, Cond.code yX9_close cX9_close 4 (some .int), Cond.fieldLink RX9 122 "CrewPayModel" "week" "I", Cond.methodLink RX9 128 yX9_claimOf, Cond.instanceMethod yX9_claimOf, Cond.selects RX9 yX9_claimOf yX9_claimOf, Cond.code yX9_claimOf cX9_claimOf 4 (some .int), Cond.methodLink RX9 131 yX9_pays, Cond.instanceMethod yX9_pays, Cond.selects RX9 yX9_pays yX9_pays, Cond.code yX9_pays cX9_pays 6 none, Cond.methodLink RX9 125 yX9_garnishes, Cond.instanceMethod yX9_garnishes, Cond.selects RX9 yX9_garnishes yX9_garnishes]
def wsL_law0_r21 : List Cond := [Cond.code yX9_garnishes cX9_garnishes 9 (some .int), Cond.methodLink RL 138 yX8_week, Cond.instanceMethod yX8_week, Cond.selects RX8 yX8_week yX8_week, Cond.code yX8_week cX8_week 1 (some .int), Cond.methodLink RL 141 yX9_week, Cond.instanceMethod yX9_week, Cond.selects RX9 yX9_week yX9_week, Cond.code yX9_week cX9_week 1 (some .int), Cond.methodLink RL 142 yL_slip, Cond.static yL_slip, Cond.codeWith yL_slip cL_slip 6 (some .int) [(0, 12, 15, 13), (0, 12, 19, 21)], Cond.methodLink RL 66 yX8_slip, Cond.instanceMethod yX8_slip, Cond.selects RX8 yX8_slip yX8_slip, Cond.code yX8_slip cX8_slip 5 (some .int), Cond.methodLink RX8 188 yX7_slipPart, Cond.instanceMethod yX7_slipPart, Cond.selects RX7 yX7_slipPart yX7_slipPart, Cond.code yX7_slipPart cX7_slipPart 4 (some .int), Cond.methodLink RX7 53 yX5_part, Cond.instanceMethod yX5_part, Cond.selects RX5 yX5_part yX5_part, Cond.code yX5_part cX5_part 2 (some .int)]
def wsL_law0_r22 : List Cond := [Cond.methodLink RL 144 yX9_slip, Cond.instanceMethod yX9_slip, Cond.selects RX9 yX9_slip yX9_slip, Cond.code yX9_slip cX9_slip 4 (some .int), Cond.methodLink RL 145 yL_toTakeBack, Cond.static yL_toTakeBack, Cond.codeWith yL_toTakeBack cL_toTakeBack 4 (some .int) [(0, 9, 12, 13)], Cond.methodLink RL 69 yX8_toTakeBack, Cond.instanceMethod yX8_toTakeBack, Cond.selects RX8 yX8_toTakeBack yX8_toTakeBack, Cond.code yX8_toTakeBack cX8_toTakeBack 2 (some .int), Cond.methodLink RL 147 yX9_toTakeBack, Cond.instanceMethod yX9_toTakeBack, Cond.selects RX9 yX9_toTakeBack yX9_toTakeBack, Cond.code yX9_toTakeBack cX9_toTakeBack 2 (some .int), Cond.methodLink RL 148 yL_claim, Cond.static yL_claim, Cond.codeWith yL_claim cL_claim 4 (some .int) [(0, 9, 12, 13)], Cond.methodLink RL 72 yX8_claim, Cond.instanceMethod yX8_claim, Cond.selects RX8 yX8_claim yX8_claim, Cond.code yX8_claim cX8_claim 2 (some .int), Cond.methodLink RL 150 yX9_claim, Cond.instanceMethod yX9_claim]
def wsL_law0_r23 : List Cond := [Cond.selects RX9 yX9_claim yX9_claim, Cond.code yX9_claim cX9_claim 2 (some .int), Cond.methodLink RL 151 yL_claimBySlips, Cond.static yL_claimBySlips, Cond.codeWith yL_claimBySlips cL_claimBySlips 4 (some .int) [(0, 9, 12, 13)], Cond.methodLink RL 75 yX8_claimBySlips, Cond.instanceMethod yX8_claimBySlips, Cond.selects RX8 yX8_claimBySlips yX8_claimBySlips, Cond.code yX8_claimBySlips cX8_claimBySlips 5 (some .int), Cond.fieldLink RX8 199 "CrewPay$Worker" "everToTakeBack" "I", Cond.methodLink RL 153 yX9_claimBySlips, Cond.instanceMethod yX9_claimBySlips, Cond.selects RX9 yX9_claimBySlips yX9_claimBySlips, Cond.code yX9_claimBySlips cX9_claimBySlips 2 (some .int)]
def wsL_law0 : List Cond := (wsL_law0_r1 ++ (wsL_law0_r2 ++ (wsL_law0_r3 ++ (wsL_law0_r4 ++ (wsL_law0_r5 ++ (wsL_law0_r6 ++ (wsL_law0_r7 ++ (wsL_law0_r8 ++ (wsL_law0_r9 ++ (wsL_law0_r10 ++ (wsL_law0_r11 ++ (wsL_law0_r12 ++ (wsL_law0_r13 ++ (wsL_law0_r14 ++ (wsL_law0_r15 ++ (wsL_law0_r16 ++ (wsL_law0_r17 ++ (wsL_law0_r18 ++ (wsL_law0_r19 ++ (wsL_law0_r20 ++ (wsL_law0_r21 ++ (wsL_law0_r22 ++ wsL_law0_r23)))))))))))))))))))))) ++ wsX80 ++ wsX90 ++ wsX10 ++ wsX20 ++ wsX30 ++ wsX70 ++ wsX40 ++ wsX00 ++ wsX60 ++ wsX50 ++ ([] : List Cond)
def wsL_law : List Cond := wsL_law0 ++ (vx_atS RX8 65 "java/lang/IllegalStateException" ["java/lang/RuntimeException", "java/lang/Exception"]).filter goodWord ++ (vx_atS RX8 129 "java/lang/IndexOutOfBoundsException" ["java/lang/RuntimeException", "java/lang/Exception"]).filter goodWord ++ (vx_atS RX8 215 "java/lang/IllegalArgumentException" ["java/lang/RuntimeException", "java/lang/Exception"]).filter goodWord
end
section
theorem dX0_init_0 : decode cX0_init 0 = .ok (.aload_n 0, 1) := by decide +kernel
theorem dX0_init_1 : decode cX0_init 1 = .ok (.invokespecial 1, 3) := by decide +kernel
theorem dX0_init_4 : decode cX0_init 4 = .ok (.aload_n 0, 1) := by decide +kernel
theorem dX0_init_5 : decode cX0_init 5 = .ok (.aload_n 1, 1) := by decide +kernel
theorem dX0_init_6 : decode cX0_init 6 = .ok (.putfield 7, 3) := by decide +kernel
theorem dX0_init_9 : decode cX0_init 9 = .ok (.aload_n 0, 1) := by decide +kernel
theorem dX0_init_10 : decode cX0_init 10 = .ok (.iload_n 2, 1) := by decide +kernel
theorem dX0_init_11 : decode cX0_init 11 = .ok (.putfield 13, 3) := by decide +kernel
theorem dX0_init_14 : decode cX0_init 14 = .ok (.aload_n 0, 1) := by decide +kernel
theorem dX0_init_15 : decode cX0_init 15 = .ok (.iload_n 3, 1) := by decide +kernel
theorem dX0_init_16 : decode cX0_init 16 = .ok (.putfield 17, 3) := by decide +kernel
theorem dX0_init_19 : decode cX0_init 19 = .ok (.aload_n 0, 1) := by decide +kernel
theorem dX0_init_20 : decode cX0_init 20 = .ok (.iload 4, 2) := by decide +kernel
theorem dX0_init_22 : decode cX0_init 22 = .ok (.putfield 20, 3) := by decide +kernel
theorem dX0_init_25 : decode cX0_init 25 = .ok (.return_, 1) := by decide +kernel
theorem dX0_payOff_0 : decode cX0_payOff 0 = .ok (.iconst 0, 1) := by decide +kernel
theorem dX0_payOff_1 : decode cX0_payOff 1 = .ok (.iload_n 1, 1) := by decide +kernel
theorem dX0_payOff_2 : decode cX0_payOff 2 = .ok (.aload_n 0, 1) := by decide +kernel
theorem dX0_payOff_3 : decode cX0_payOff 3 = .ok (.getfield 17, 3) := by decide +kernel
theorem dX0_payOff_6 : decode cX0_payOff 6 = .ok (.aload_n 0, 1) := by decide +kernel
theorem dX0_payOff_7 : decode cX0_payOff 7 = .ok (.getfield 20, 3) := by decide +kernel
theorem dX0_payOff_10 : decode cX0_payOff 10 = .ok (.invokestatic 23, 3) := by decide +kernel
theorem dX0_payOff_13 : decode cX0_payOff 13 = .ok (.invokestatic 23, 3) := by decide +kernel
theorem dX0_payOff_16 : decode cX0_payOff 16 = .ok (.invokestatic 29, 3) := by decide +kernel
theorem dX0_payOff_19 : decode cX0_payOff 19 = .ok (.istore_n 2, 1) := by decide +kernel
theorem dX0_payOff_20 : decode cX0_payOff 20 = .ok (.aload_n 0, 1) := by decide +kernel
theorem dX0_payOff_21 : decode cX0_payOff 21 = .ok (.dup, 1) := by decide +kernel
theorem dX0_payOff_22 : decode cX0_payOff 22 = .ok (.getfield 17, 3) := by decide +kernel
theorem dX0_payOff_25 : decode cX0_payOff 25 = .ok (.iload_n 2, 1) := by decide +kernel
theorem dX0_payOff_26 : decode cX0_payOff 26 = .ok (.isub, 1) := by decide +kernel
theorem dX0_payOff_27 : decode cX0_payOff 27 = .ok (.putfield 17, 3) := by decide +kernel
theorem dX0_payOff_30 : decode cX0_payOff 30 = .ok (.iload_n 2, 1) := by decide +kernel
theorem dX0_payOff_31 : decode cX0_payOff 31 = .ok (.ireturn, 1) := by decide +kernel
theorem dX1_init_0 : decode cX1_init 0 = .ok (.aload_n 0, 1) := by decide +kernel
theorem dX1_init_1 : decode cX1_init 1 = .ok (.invokespecial 1, 3) := by decide +kernel
theorem dX1_init_4 : decode cX1_init 4 = .ok (.aload_n 0, 1) := by decide +kernel
theorem dX1_init_5 : decode cX1_init 5 = .ok (.iconst 0, 1) := by decide +kernel
theorem dX1_init_6 : decode cX1_init 6 = .ok (.putfield 7, 3) := by decide +kernel
theorem dX1_init_9 : decode cX1_init 9 = .ok (.aload_n 0, 1) := by decide +kernel
theorem dX1_init_10 : decode cX1_init 10 = .ok (.iconst 0, 1) := by decide +kernel
theorem dX1_init_11 : decode cX1_init 11 = .ok (.putfield 13, 3) := by decide +kernel
theorem dX1_init_14 : decode cX1_init 14 = .ok (.return_, 1) := by decide +kernel
theorem dX1_receive_0 : decode cX1_receive 0 = .ok (.aload_n 0, 1) := by decide +kernel
theorem dX1_receive_1 : decode cX1_receive 1 = .ok (.getfield 13, 3) := by decide +kernel
theorem dX1_receive_4 : decode cX1_receive 4 = .ok (.iload_n 1, 1) := by decide +kernel
theorem dX1_receive_5 : decode cX1_receive 5 = .ok (.invokestatic 16, 3) := by decide +kernel
theorem dX1_receive_8 : decode cX1_receive 8 = .ok (.istore_n 2, 1) := by decide +kernel
theorem dX1_receive_9 : decode cX1_receive 9 = .ok (.aload_n 0, 1) := by decide +kernel
theorem dX1_receive_10 : decode cX1_receive 10 = .ok (.dup, 1) := by decide +kernel
theorem dX1_receive_11 : decode cX1_receive 11 = .ok (.getfield 13, 3) := by decide +kernel
theorem dX1_receive_14 : decode cX1_receive 14 = .ok (.iload_n 2, 1) := by decide +kernel
theorem dX1_receive_15 : decode cX1_receive 15 = .ok (.isub, 1) := by decide +kernel
theorem dX1_receive_16 : decode cX1_receive 16 = .ok (.putfield 13, 3) := by decide +kernel
theorem dX1_receive_19 : decode cX1_receive 19 = .ok (.aload_n 0, 1) := by decide +kernel
theorem dX1_receive_20 : decode cX1_receive 20 = .ok (.dup, 1) := by decide +kernel
theorem dX1_receive_21 : decode cX1_receive 21 = .ok (.getfield 7, 3) := by decide +kernel
theorem dX1_receive_24 : decode cX1_receive 24 = .ok (.iload_n 1, 1) := by decide +kernel
theorem dX1_receive_25 : decode cX1_receive 25 = .ok (.iload_n 2, 1) := by decide +kernel
theorem dX1_receive_26 : decode cX1_receive 26 = .ok (.isub, 1) := by decide +kernel
theorem dX1_receive_27 : decode cX1_receive 27 = .ok (.iadd, 1) := by decide +kernel
theorem dX1_receive_28 : decode cX1_receive 28 = .ok (.putfield 7, 3) := by decide +kernel
theorem dX1_receive_31 : decode cX1_receive 31 = .ok (.return_, 1) := by decide +kernel
theorem dX1_lose_0 : decode cX1_lose 0 = .ok (.aload_n 0, 1) := by decide +kernel
theorem dX1_lose_1 : decode cX1_lose 1 = .ok (.getfield 7, 3) := by decide +kernel
theorem dX1_lose_4 : decode cX1_lose 4 = .ok (.iload_n 1, 1) := by decide +kernel
theorem dX1_lose_5 : decode cX1_lose 5 = .ok (.invokestatic 16, 3) := by decide +kernel
theorem dX1_lose_8 : decode cX1_lose 8 = .ok (.istore_n 2, 1) := by decide +kernel
theorem dX1_lose_9 : decode cX1_lose 9 = .ok (.aload_n 0, 1) := by decide +kernel
theorem dX1_lose_10 : decode cX1_lose 10 = .ok (.dup, 1) := by decide +kernel
theorem dX1_lose_11 : decode cX1_lose 11 = .ok (.getfield 7, 3) := by decide +kernel
theorem dX1_lose_14 : decode cX1_lose 14 = .ok (.iload_n 2, 1) := by decide +kernel
theorem dX1_lose_15 : decode cX1_lose 15 = .ok (.isub, 1) := by decide +kernel
theorem dX1_lose_16 : decode cX1_lose 16 = .ok (.putfield 7, 3) := by decide +kernel
theorem dX1_lose_19 : decode cX1_lose 19 = .ok (.aload_n 0, 1) := by decide +kernel
theorem dX1_lose_20 : decode cX1_lose 20 = .ok (.dup, 1) := by decide +kernel
theorem dX1_lose_21 : decode cX1_lose 21 = .ok (.getfield 13, 3) := by decide +kernel
theorem dX1_lose_24 : decode cX1_lose 24 = .ok (.iload_n 1, 1) := by decide +kernel
theorem dX1_lose_25 : decode cX1_lose 25 = .ok (.iload_n 2, 1) := by decide +kernel
theorem dX1_lose_26 : decode cX1_lose 26 = .ok (.isub, 1) := by decide +kernel
theorem dX1_lose_27 : decode cX1_lose 27 = .ok (.iadd, 1) := by decide +kernel
theorem dX1_lose_28 : decode cX1_lose 28 = .ok (.putfield 13, 3) := by decide +kernel
theorem dX1_lose_31 : decode cX1_lose 31 = .ok (.return_, 1) := by decide +kernel
set_option maxRecDepth 20000 in
theorem ggX2_init_X3_init : GoodIn wsX2_init wsX3_init := goodIn_r _ [11, 12, 2, 3, 13, 14, 15, 16, 17, 18] (by decide +kernel) (by decide +kernel)
set_option maxRecDepth 20000 in
theorem gX2_init_X3_init : GoodIn wsX2_init (wsX3_init) := ggX2_init_X3_init
theorem dX2_init_0 : decode cX2_init 0 = .ok (.aload_n 0, 1) := by decide +kernel
theorem dX2_init_1 : decode cX2_init 1 = .ok (.invokespecial 3, 3) := by decide +kernel
theorem dX2_init_4 : decode cX2_init 4 = .ok (.aload_n 0, 1) := by decide +kernel
theorem dX2_init_5 : decode cX2_init 5 = .ok (.new 9, 3) := by decide +kernel
theorem dX2_init_8 : decode cX2_init 8 = .ok (.dup, 1) := by decide +kernel
theorem dX2_init_9 : decode cX2_init 9 = .ok (.sipush 1000, 3) := by decide +kernel
theorem dX2_init_12 : decode cX2_init 12 = .ok (.invokespecial 11, 3) := by decide +kernel
theorem dX2_init_15 : decode cX2_init 15 = .ok (.putfield 14, 3) := by decide +kernel
theorem dX2_init_18 : decode cX2_init 18 = .ok (.aload_n 0, 1) := by decide +kernel
theorem dX2_init_19 : decode cX2_init 19 = .ok (.new 9, 3) := by decide +kernel
theorem dX2_init_22 : decode cX2_init 22 = .ok (.dup, 1) := by decide +kernel
theorem dX2_init_23 : decode cX2_init 23 = .ok (.sipush 1500, 3) := by decide +kernel
theorem dX2_init_26 : decode cX2_init 26 = .ok (.invokespecial 11, 3) := by decide +kernel
theorem dX2_init_29 : decode cX2_init 29 = .ok (.putfield 20, 3) := by decide +kernel
theorem dX2_init_32 : decode cX2_init 32 = .ok (.return_, 1) := by decide +kernel
theorem dX3_init_0 : decode cX3_init 0 = .ok (.aload_n 0, 1) := by decide +kernel
theorem dX3_init_1 : decode cX3_init 1 = .ok (.invokespecial 3, 3) := by decide +kernel
theorem dX3_init_4 : decode cX3_init 4 = .ok (.aload_n 0, 1) := by decide +kernel
theorem dX3_init_5 : decode cX3_init 5 = .ok (.bipush 31, 2) := by decide +kernel
theorem dX3_init_7 : decode cX3_init 7 = .ok (.newarray .int, 2) := by decide +kernel
theorem dX3_init_9 : decode cX3_init 9 = .ok (.putfield 9, 3) := by decide +kernel
theorem dX3_init_12 : decode cX3_init 12 = .ok (.aload_n 0, 1) := by decide +kernel
theorem dX3_init_13 : decode cX3_init 13 = .ok (.bipush 31, 2) := by decide +kernel
theorem dX3_init_15 : decode cX3_init 15 = .ok (.newarray .boolean, 2) := by decide +kernel
theorem dX3_init_17 : decode cX3_init 17 = .ok (.putfield 15, 3) := by decide +kernel
theorem dX3_init_20 : decode cX3_init 20 = .ok (.iconst 0, 1) := by decide +kernel
theorem dX3_init_21 : decode cX3_init 21 = .ok (.istore_n 2, 1) := by decide +kernel
theorem dX3_init_22 : decode cX3_init 22 = .ok (.iload_n 2, 1) := by decide +kernel
theorem dX3_init_23 : decode cX3_init 23 = .ok (.aload_n 0, 1) := by decide +kernel
theorem dX3_init_24 : decode cX3_init 24 = .ok (.getfield 9, 3) := by decide +kernel
theorem dX3_init_27 : decode cX3_init 27 = .ok (.arraylength, 1) := by decide +kernel
theorem dX3_init_28 : decode cX3_init 28 = .ok (.if_icmp .ge 16, 3) := by decide +kernel
theorem dX3_init_31 : decode cX3_init 31 = .ok (.aload_n 0, 1) := by decide +kernel
theorem dX3_init_32 : decode cX3_init 32 = .ok (.getfield 9, 3) := by decide +kernel
theorem dX3_init_35 : decode cX3_init 35 = .ok (.iload_n 2, 1) := by decide +kernel
theorem dX3_init_36 : decode cX3_init 36 = .ok (.iload_n 1, 1) := by decide +kernel
theorem dX3_init_37 : decode cX3_init 37 = .ok (.iastore, 1) := by decide +kernel
theorem dX3_init_38 : decode cX3_init 38 = .ok (.iinc 2 1, 3) := by decide +kernel
theorem dX3_init_41 : decode cX3_init 41 = .ok (.goto (-19), 3) := by decide +kernel
theorem dX3_init_44 : decode cX3_init 44 = .ok (.return_, 1) := by decide +kernel
theorem dX3_inWeek_0 : decode cX3_inWeek 0 = .ok (.iload_n 1, 1) := by decide +kernel
theorem dX3_inWeek_1 : decode cX3_inWeek 1 = .ok (.ifCond .lt 21, 3) := by decide +kernel
theorem dX3_inWeek_4 : decode cX3_inWeek 4 = .ok (.iload_n 1, 1) := by decide +kernel
theorem dX3_inWeek_5 : decode cX3_inWeek 5 = .ok (.aload_n 0, 1) := by decide +kernel
theorem dX3_inWeek_6 : decode cX3_inWeek 6 = .ok (.getfield 9, 3) := by decide +kernel
theorem dX3_inWeek_9 : decode cX3_inWeek 9 = .ok (.arraylength, 1) := by decide +kernel
theorem dX3_inWeek_10 : decode cX3_inWeek 10 = .ok (.if_icmp .ge 12, 3) := by decide +kernel
theorem dX3_inWeek_13 : decode cX3_inWeek 13 = .ok (.aload_n 0, 1) := by decide +kernel
theorem dX3_inWeek_14 : decode cX3_inWeek 14 = .ok (.getfield 9, 3) := by decide +kernel
theorem dX3_inWeek_17 : decode cX3_inWeek 17 = .ok (.iload_n 1, 1) := by decide +kernel
theorem dX3_inWeek_18 : decode cX3_inWeek 18 = .ok (.iaload, 1) := by decide +kernel
theorem dX3_inWeek_19 : decode cX3_inWeek 19 = .ok (.goto 4, 3) := by decide +kernel
theorem dX3_inWeek_22 : decode cX3_inWeek 22 = .ok (.iconst (-1), 1) := by decide +kernel
theorem dX3_inWeek_23 : decode cX3_inWeek 23 = .ok (.ireturn, 1) := by decide +kernel
theorem dX3_tell_0 : decode cX3_tell 0 = .ok (.iload_n 1, 1) := by decide +kernel
theorem dX3_tell_1 : decode cX3_tell 1 = .ok (.ifCond .lt 21, 3) := by decide +kernel
theorem dX3_tell_4 : decode cX3_tell 4 = .ok (.iload_n 1, 1) := by decide +kernel
theorem dX3_tell_5 : decode cX3_tell 5 = .ok (.aload_n 0, 1) := by decide +kernel
theorem dX3_tell_6 : decode cX3_tell 6 = .ok (.getfield 9, 3) := by decide +kernel
theorem dX3_tell_9 : decode cX3_tell 9 = .ok (.arraylength, 1) := by decide +kernel
theorem dX3_tell_10 : decode cX3_tell 10 = .ok (.if_icmp .ge 12, 3) := by decide +kernel
theorem dX3_tell_13 : decode cX3_tell 13 = .ok (.iload_n 1, 1) := by decide +kernel
theorem dX3_tell_14 : decode cX3_tell 14 = .ok (.aload_n 0, 1) := by decide +kernel
theorem dX3_tell_15 : decode cX3_tell 15 = .ok (.getfield 15, 3) := by decide +kernel
theorem dX3_tell_18 : decode cX3_tell 18 = .ok (.arraylength, 1) := by decide +kernel
theorem dX3_tell_19 : decode cX3_tell 19 = .ok (.if_icmp .lt 4, 3) := by decide +kernel
theorem dX3_tell_22 : decode cX3_tell 22 = .ok (.return_, 1) := by decide +kernel
theorem dX3_tell_23 : decode cX3_tell 23 = .ok (.aload_n 0, 1) := by decide +kernel
theorem dX3_tell_24 : decode cX3_tell 24 = .ok (.getfield 15, 3) := by decide +kernel
theorem dX3_tell_27 : decode cX3_tell 27 = .ok (.iload_n 1, 1) := by decide +kernel
theorem dX3_tell_28 : decode cX3_tell 28 = .ok (.iconst 1, 1) := by decide +kernel
theorem dX3_tell_29 : decode cX3_tell 29 = .ok (.bastore, 1) := by decide +kernel
theorem dX3_tell_30 : decode cX3_tell 30 = .ok (.aload_n 0, 1) := by decide +kernel
theorem dX3_tell_31 : decode cX3_tell 31 = .ok (.getfield 9, 3) := by decide +kernel
theorem dX3_tell_34 : decode cX3_tell 34 = .ok (.iload_n 1, 1) := by decide +kernel
theorem dX3_tell_35 : decode cX3_tell 35 = .ok (.iload_n 2, 1) := by decide +kernel
theorem dX3_tell_36 : decode cX3_tell 36 = .ok (.iastore, 1) := by decide +kernel
theorem dX3_tell_37 : decode cX3_tell 37 = .ok (.iload_n 1, 1) := by decide +kernel
theorem dX3_tell_38 : decode cX3_tell 38 = .ok (.iconst 1, 1) := by decide +kernel
theorem dX3_tell_39 : decode cX3_tell 39 = .ok (.iadd, 1) := by decide +kernel
theorem dX3_tell_40 : decode cX3_tell 40 = .ok (.istore_n 3, 1) := by decide +kernel
theorem dX3_tell_41 : decode cX3_tell 41 = .ok (.iload_n 3, 1) := by decide +kernel
theorem dX3_tell_42 : decode cX3_tell 42 = .ok (.aload_n 0, 1) := by decide +kernel
theorem dX3_tell_43 : decode cX3_tell 43 = .ok (.getfield 9, 3) := by decide +kernel
theorem dX3_tell_46 : decode cX3_tell 46 = .ok (.arraylength, 1) := by decide +kernel
theorem dX3_tell_47 : decode cX3_tell 47 = .ok (.if_icmp .ge 35, 3) := by decide +kernel
theorem dX3_tell_50 : decode cX3_tell 50 = .ok (.iload_n 3, 1) := by decide +kernel
theorem dX3_tell_51 : decode cX3_tell 51 = .ok (.aload_n 0, 1) := by decide +kernel
theorem dX3_tell_52 : decode cX3_tell 52 = .ok (.getfield 15, 3) := by decide +kernel
theorem dX3_tell_55 : decode cX3_tell 55 = .ok (.arraylength, 1) := by decide +kernel
theorem dX3_tell_56 : decode cX3_tell 56 = .ok (.if_icmp .ge 26, 3) := by decide +kernel
theorem dX3_tell_59 : decode cX3_tell 59 = .ok (.aload_n 0, 1) := by decide +kernel
theorem dX3_tell_60 : decode cX3_tell 60 = .ok (.getfield 15, 3) := by decide +kernel
theorem dX3_tell_63 : decode cX3_tell 63 = .ok (.iload_n 3, 1) := by decide +kernel
theorem dX3_tell_64 : decode cX3_tell 64 = .ok (.baload, 1) := by decide +kernel
theorem dX3_tell_65 : decode cX3_tell 65 = .ok (.ifCond .eq 4, 3) := by decide +kernel
theorem dX3_tell_68 : decode cX3_tell 68 = .ok (.return_, 1) := by decide +kernel
theorem dX3_tell_69 : decode cX3_tell 69 = .ok (.aload_n 0, 1) := by decide +kernel
theorem dX3_tell_70 : decode cX3_tell 70 = .ok (.getfield 9, 3) := by decide +kernel
theorem dX3_tell_73 : decode cX3_tell 73 = .ok (.iload_n 3, 1) := by decide +kernel
theorem dX3_tell_74 : decode cX3_tell 74 = .ok (.iload_n 2, 1) := by decide +kernel
theorem dX3_tell_75 : decode cX3_tell 75 = .ok (.iastore, 1) := by decide +kernel
theorem dX3_tell_76 : decode cX3_tell 76 = .ok (.iinc 3 1, 3) := by decide +kernel
theorem dX3_tell_79 : decode cX3_tell 79 = .ok (.goto (-38), 3) := by decide +kernel
theorem dX3_tell_82 : decode cX3_tell 82 = .ok (.return_, 1) := by decide +kernel
theorem dX4_init_0 : decode cX4_init 0 = .ok (.aload_n 0, 1) := by decide +kernel
theorem dX4_init_1 : decode cX4_init 1 = .ok (.invokespecial 1, 3) := by decide +kernel
theorem dX4_init_4 : decode cX4_init 4 = .ok (.aload_n 0, 1) := by decide +kernel
theorem dX4_init_5 : decode cX4_init 5 = .ok (.iload_n 1, 1) := by decide +kernel
theorem dX4_init_6 : decode cX4_init 6 = .ok (.putfield 7, 3) := by decide +kernel
theorem dX4_init_9 : decode cX4_init 9 = .ok (.aload_n 0, 1) := by decide +kernel
theorem dX4_init_10 : decode cX4_init 10 = .ok (.iload_n 2, 1) := by decide +kernel
theorem dX4_init_11 : decode cX4_init 11 = .ok (.putfield 13, 3) := by decide +kernel
theorem dX4_init_14 : decode cX4_init 14 = .ok (.aload_n 0, 1) := by decide +kernel
theorem dX4_init_15 : decode cX4_init 15 = .ok (.iload_n 3, 1) := by decide +kernel
theorem dX4_init_16 : decode cX4_init 16 = .ok (.putfield 16, 3) := by decide +kernel
theorem dX4_init_19 : decode cX4_init 19 = .ok (.return_, 1) := by decide +kernel
theorem dX5_init_0 : decode cX5_init 0 = .ok (.aload_n 0, 1) := by decide +kernel
theorem dX5_init_1 : decode cX5_init 1 = .ok (.invokespecial 3, 3) := by decide +kernel
theorem dX5_init_4 : decode cX5_init 4 = .ok (.aload_n 0, 1) := by decide +kernel
theorem dX5_init_5 : decode cX5_init 5 = .ok (.iload_n 1, 1) := by decide +kernel
theorem dX5_init_6 : decode cX5_init 6 = .ok (.putfield 9, 3) := by decide +kernel
theorem dX5_init_9 : decode cX5_init 9 = .ok (.aload_n 0, 1) := by decide +kernel
theorem dX5_init_10 : decode cX5_init 10 = .ok (.iload_n 2, 1) := by decide +kernel
theorem dX5_init_11 : decode cX5_init 11 = .ok (.putfield 15, 3) := by decide +kernel
theorem dX5_init_14 : decode cX5_init 14 = .ok (.aload_n 0, 1) := by decide +kernel
theorem dX5_init_15 : decode cX5_init 15 = .ok (.iload_n 3, 1) := by decide +kernel
theorem dX5_init_16 : decode cX5_init 16 = .ok (.putfield 18, 3) := by decide +kernel
theorem dX5_init_19 : decode cX5_init 19 = .ok (.aload_n 0, 1) := by decide +kernel
theorem dX5_init_20 : decode cX5_init 20 = .ok (.iload 4, 2) := by decide +kernel
theorem dX5_init_22 : decode cX5_init 22 = .ok (.putfield 21, 3) := by decide +kernel
theorem dX5_init_25 : decode cX5_init 25 = .ok (.return_, 1) := by decide +kernel
theorem dX5_part_0 : decode cX5_part 0 = .ok (.iload_n 1, 1) := by decide +kernel
theorem dX5_part_1 : decode cX5_part 1 = .ok (.tableswitch 51 0 3 #[31, 36, 41, 46], 31) := by decide +kernel
theorem dX5_part_32 : decode cX5_part 32 = .ok (.aload_n 0, 1) := by decide +kernel
theorem dX5_part_33 : decode cX5_part 33 = .ok (.getfield 9, 3) := by decide +kernel
theorem dX5_part_36 : decode cX5_part 36 = .ok (.ireturn, 1) := by decide +kernel
theorem dX5_part_37 : decode cX5_part 37 = .ok (.aload_n 0, 1) := by decide +kernel
theorem dX5_part_38 : decode cX5_part 38 = .ok (.getfield 15, 3) := by decide +kernel
theorem dX5_part_41 : decode cX5_part 41 = .ok (.ireturn, 1) := by decide +kernel
theorem dX5_part_42 : decode cX5_part 42 = .ok (.aload_n 0, 1) := by decide +kernel
theorem dX5_part_43 : decode cX5_part 43 = .ok (.getfield 18, 3) := by decide +kernel
theorem dX5_part_46 : decode cX5_part 46 = .ok (.ireturn, 1) := by decide +kernel
theorem dX5_part_47 : decode cX5_part 47 = .ok (.aload_n 0, 1) := by decide +kernel
theorem dX5_part_48 : decode cX5_part 48 = .ok (.getfield 21, 3) := by decide +kernel
theorem dX5_part_51 : decode cX5_part 51 = .ok (.ireturn, 1) := by decide +kernel
theorem dX5_part_52 : decode cX5_part 52 = .ok (.iconst 0, 1) := by decide +kernel
theorem dX5_part_53 : decode cX5_part 53 = .ok (.ireturn, 1) := by decide +kernel
theorem dX6_init_0 : decode cX6_init 0 = .ok (.aload_n 0, 1) := by decide +kernel
theorem dX6_init_1 : decode cX6_init 1 = .ok (.invokespecial 1, 3) := by decide +kernel
theorem dX6_init_4 : decode cX6_init 4 = .ok (.aload_n 0, 1) := by decide +kernel
theorem dX6_init_5 : decode cX6_init 5 = .ok (.iconst 0, 1) := by decide +kernel
theorem dX6_init_6 : decode cX6_init 6 = .ok (.putfield 7, 3) := by decide +kernel
theorem dX6_init_9 : decode cX6_init 9 = .ok (.aload_n 0, 1) := by decide +kernel
theorem dX6_init_10 : decode cX6_init 10 = .ok (.aload_n 1, 1) := by decide +kernel
theorem dX6_init_11 : decode cX6_init 11 = .ok (.putfield 13, 3) := by decide +kernel
theorem dX6_init_14 : decode cX6_init 14 = .ok (.aload_n 0, 1) := by decide +kernel
theorem dX6_init_15 : decode cX6_init 15 = .ok (.iload_n 2, 1) := by decide +kernel
theorem dX6_init_16 : decode cX6_init 16 = .ok (.putfield 17, 3) := by decide +kernel
theorem dX6_init_19 : decode cX6_init 19 = .ok (.return_, 1) := by decide +kernel
set_option maxRecDepth 20000 in
theorem ggX7_init_X3_init : GoodIn wsX7_init wsX3_init := goodIn_r _ [19, 20, 2, 3, 21, 22, 23, 24, 25, 26] (by decide +kernel) (by decide +kernel)
set_option maxRecDepth 20000 in
theorem gX7_init_X3_init : GoodIn wsX7_init (wsX3_init) := ggX7_init_X3_init
theorem dX7_init_0 : decode cX7_init 0 = .ok (.aload_n 0, 1) := by decide +kernel
theorem dX7_init_1 : decode cX7_init 1 = .ok (.invokespecial 3, 3) := by decide +kernel
theorem dX7_init_4 : decode cX7_init 4 = .ok (.aload_n 0, 1) := by decide +kernel
theorem dX7_init_5 : decode cX7_init 5 = .ok (.new 9, 3) := by decide +kernel
theorem dX7_init_8 : decode cX7_init 8 = .ok (.dup, 1) := by decide +kernel
theorem dX7_init_9 : decode cX7_init 9 = .ok (.iconst 0, 1) := by decide +kernel
theorem dX7_init_10 : decode cX7_init 10 = .ok (.invokespecial 11, 3) := by decide +kernel
theorem dX7_init_13 : decode cX7_init 13 = .ok (.putfield 14, 3) := by decide +kernel
theorem dX7_init_16 : decode cX7_init 16 = .ok (.aload_n 0, 1) := by decide +kernel
theorem dX7_init_17 : decode cX7_init 17 = .ok (.iconst 0, 1) := by decide +kernel
theorem dX7_init_18 : decode cX7_init 18 = .ok (.putfield 20, 3) := by decide +kernel
theorem dX7_init_21 : decode cX7_init 21 = .ok (.aload_n 0, 1) := by decide +kernel
theorem dX7_init_22 : decode cX7_init 22 = .ok (.iconst 0, 1) := by decide +kernel
theorem dX7_init_23 : decode cX7_init 23 = .ok (.putfield 24, 3) := by decide +kernel
theorem dX7_init_26 : decode cX7_init 26 = .ok (.aload_n 0, 1) := by decide +kernel
theorem dX7_init_27 : decode cX7_init 27 = .ok (.iconst 0, 1) := by decide +kernel
theorem dX7_init_28 : decode cX7_init 28 = .ok (.putfield 27, 3) := by decide +kernel
theorem dX7_init_31 : decode cX7_init 31 = .ok (.aload_n 0, 1) := by decide +kernel
theorem dX7_init_32 : decode cX7_init 32 = .ok (.iconst 0, 1) := by decide +kernel
theorem dX7_init_33 : decode cX7_init 33 = .ok (.putfield 30, 3) := by decide +kernel
theorem dX7_init_36 : decode cX7_init 36 = .ok (.aload_n 0, 1) := by decide +kernel
theorem dX7_init_37 : decode cX7_init 37 = .ok (.bipush 20, 2) := by decide +kernel
theorem dX7_init_39 : decode cX7_init 39 = .ok (.anewarray 33, 3) := by decide +kernel
theorem dX7_init_42 : decode cX7_init 42 = .ok (.putfield 35, 3) := by decide +kernel
theorem dX7_init_45 : decode cX7_init 45 = .ok (.aload_n 0, 1) := by decide +kernel
theorem dX7_init_46 : decode cX7_init 46 = .ok (.bipush 31, 2) := by decide +kernel
theorem dX7_init_48 : decode cX7_init 48 = .ok (.anewarray 39, 3) := by decide +kernel
theorem dX7_init_51 : decode cX7_init 51 = .ok (.putfield 41, 3) := by decide +kernel
theorem dX7_init_54 : decode cX7_init 54 = .ok (.aload_n 0, 1) := by decide +kernel
theorem dX7_init_55 : decode cX7_init 55 = .ok (.aload_n 1, 1) := by decide +kernel
theorem dX7_init_56 : decode cX7_init 56 = .ok (.putfield 45, 3) := by decide +kernel
theorem dX7_init_59 : decode cX7_init 59 = .ok (.return_, 1) := by decide +kernel
theorem dX7_sheet_0 : decode cX7_sheet 0 = .ok (.iload_n 1, 1) := by decide +kernel
theorem dX7_sheet_1 : decode cX7_sheet 1 = .ok (.ifCond .lt 21, 3) := by decide +kernel
theorem dX7_sheet_4 : decode cX7_sheet 4 = .ok (.iload_n 1, 1) := by decide +kernel
theorem dX7_sheet_5 : decode cX7_sheet 5 = .ok (.aload_n 0, 1) := by decide +kernel
theorem dX7_sheet_6 : decode cX7_sheet 6 = .ok (.getfield 35, 3) := by decide +kernel
theorem dX7_sheet_9 : decode cX7_sheet 9 = .ok (.arraylength, 1) := by decide +kernel
theorem dX7_sheet_10 : decode cX7_sheet 10 = .ok (.if_icmp .ge 12, 3) := by decide +kernel
theorem dX7_sheet_13 : decode cX7_sheet 13 = .ok (.aload_n 0, 1) := by decide +kernel
theorem dX7_sheet_14 : decode cX7_sheet 14 = .ok (.getfield 35, 3) := by decide +kernel
theorem dX7_sheet_17 : decode cX7_sheet 17 = .ok (.iload_n 1, 1) := by decide +kernel
theorem dX7_sheet_18 : decode cX7_sheet 18 = .ok (.aaload, 1) := by decide +kernel
theorem dX7_sheet_19 : decode cX7_sheet 19 = .ok (.goto 4, 3) := by decide +kernel
theorem dX7_sheet_22 : decode cX7_sheet 22 = .ok (.aconst_null, 1) := by decide +kernel
theorem dX7_sheet_23 : decode cX7_sheet 23 = .ok (.areturn, 1) := by decide +kernel
set_option maxRecDepth 20000 in
theorem ggX7_take_X7_sheet : GoodIn wsX7_take wsX7_sheet := goodIn_r _ [7, 1, 8, 9, 10, 11, 12, 13, 14, 15] (by decide +kernel) (by decide +kernel)
set_option maxRecDepth 20000 in
theorem gX7_take_X7_sheet : GoodIn wsX7_take (wsV RX7 49 RX7 yX7_sheet wsX7_sheet) := goodIn_app (goodIn_of _ (by decide +kernel)) ggX7_take_X7_sheet
theorem dX7_take_0 : decode cX7_take 0 = .ok (.iload_n 1, 1) := by decide +kernel
theorem dX7_take_1 : decode cX7_take 1 = .ok (.ifCond .lt 19, 3) := by decide +kernel
theorem dX7_take_4 : decode cX7_take 4 = .ok (.iload_n 1, 1) := by decide +kernel
theorem dX7_take_5 : decode cX7_take 5 = .ok (.aload_n 0, 1) := by decide +kernel
theorem dX7_take_6 : decode cX7_take 6 = .ok (.getfield 35, 3) := by decide +kernel
theorem dX7_take_9 : decode cX7_take 9 = .ok (.arraylength, 1) := by decide +kernel
theorem dX7_take_10 : decode cX7_take 10 = .ok (.if_icmp .ge 10, 3) := by decide +kernel
theorem dX7_take_13 : decode cX7_take 13 = .ok (.aload_n 0, 1) := by decide +kernel
theorem dX7_take_14 : decode cX7_take 14 = .ok (.getfield 35, 3) := by decide +kernel
theorem dX7_take_17 : decode cX7_take 17 = .ok (.iload_n 1, 1) := by decide +kernel
theorem dX7_take_18 : decode cX7_take 18 = .ok (.aload_n 2, 1) := by decide +kernel
theorem dX7_take_19 : decode cX7_take 19 = .ok (.aastore, 1) := by decide +kernel
theorem dX7_take_20 : decode cX7_take 20 = .ok (.aload_n 0, 1) := by decide +kernel
theorem dX7_take_21 : decode cX7_take 21 = .ok (.getfield 20, 3) := by decide +kernel
theorem dX7_take_24 : decode cX7_take 24 = .ok (.aload_n 0, 1) := by decide +kernel
theorem dX7_take_25 : decode cX7_take 25 = .ok (.getfield 35, 3) := by decide +kernel
theorem dX7_take_28 : decode cX7_take 28 = .ok (.arraylength, 1) := by decide +kernel
theorem dX7_take_29 : decode cX7_take 29 = .ok (.if_icmp .ge 27, 3) := by decide +kernel
theorem dX7_take_32 : decode cX7_take 32 = .ok (.aload_n 0, 1) := by decide +kernel
theorem dX7_take_33 : decode cX7_take 33 = .ok (.aload_n 0, 1) := by decide +kernel
theorem dX7_take_34 : decode cX7_take 34 = .ok (.getfield 20, 3) := by decide +kernel
theorem dX7_take_37 : decode cX7_take 37 = .ok (.invokevirtual 49, 3) := by decide +kernel
theorem dX7_take_40 : decode cX7_take 40 = .ok (.ifnull 16, 3) := by decide +kernel
theorem dX7_take_43 : decode cX7_take 43 = .ok (.aload_n 0, 1) := by decide +kernel
theorem dX7_take_44 : decode cX7_take 44 = .ok (.dup, 1) := by decide +kernel
theorem dX7_take_45 : decode cX7_take 45 = .ok (.getfield 20, 3) := by decide +kernel
theorem dX7_take_48 : decode cX7_take 48 = .ok (.iconst 1, 1) := by decide +kernel
theorem dX7_take_49 : decode cX7_take 49 = .ok (.iadd, 1) := by decide +kernel
theorem dX7_take_50 : decode cX7_take 50 = .ok (.putfield 20, 3) := by decide +kernel
theorem dX7_take_53 : decode cX7_take 53 = .ok (.goto (-33), 3) := by decide +kernel
theorem dX7_take_56 : decode cX7_take 56 = .ok (.return_, 1) := by decide +kernel
theorem dX7_owe_0 : decode cX7_owe 0 = .ok (.aload_n 0, 1) := by decide +kernel
theorem dX7_owe_1 : decode cX7_owe 1 = .ok (.dup, 1) := by decide +kernel
theorem dX7_owe_2 : decode cX7_owe 2 = .ok (.getfield 27, 3) := by decide +kernel
theorem dX7_owe_5 : decode cX7_owe 5 = .ok (.iload_n 1, 1) := by decide +kernel
theorem dX7_owe_6 : decode cX7_owe 6 = .ok (.iadd, 1) := by decide +kernel
theorem dX7_owe_7 : decode cX7_owe 7 = .ok (.putfield 27, 3) := by decide +kernel
theorem dX7_owe_10 : decode cX7_owe 10 = .ok (.aload_n 0, 1) := by decide +kernel
theorem dX7_owe_11 : decode cX7_owe 11 = .ok (.dup, 1) := by decide +kernel
theorem dX7_owe_12 : decode cX7_owe 12 = .ok (.getfield 30, 3) := by decide +kernel
theorem dX7_owe_15 : decode cX7_owe 15 = .ok (.iload_n 1, 1) := by decide +kernel
theorem dX7_owe_16 : decode cX7_owe 16 = .ok (.iadd, 1) := by decide +kernel
theorem dX7_owe_17 : decode cX7_owe 17 = .ok (.putfield 30, 3) := by decide +kernel
theorem dX7_owe_20 : decode cX7_owe 20 = .ok (.aload_n 0, 1) := by decide +kernel
theorem dX7_owe_21 : decode cX7_owe 21 = .ok (.dup, 1) := by decide +kernel
theorem dX7_owe_22 : decode cX7_owe 22 = .ok (.getfield 24, 3) := by decide +kernel
theorem dX7_owe_25 : decode cX7_owe 25 = .ok (.iload_n 1, 1) := by decide +kernel
theorem dX7_owe_26 : decode cX7_owe 26 = .ok (.isub, 1) := by decide +kernel
theorem dX7_owe_27 : decode cX7_owe 27 = .ok (.putfield 24, 3) := by decide +kernel
theorem dX7_owe_30 : decode cX7_owe 30 = .ok (.return_, 1) := by decide +kernel
theorem dX7_keepSlip_0 : decode cX7_keepSlip 0 = .ok (.iload_n 1, 1) := by decide +kernel
theorem dX7_keepSlip_1 : decode cX7_keepSlip 1 = .ok (.ifCond .lt 19, 3) := by decide +kernel
theorem dX7_keepSlip_4 : decode cX7_keepSlip 4 = .ok (.iload_n 1, 1) := by decide +kernel
theorem dX7_keepSlip_5 : decode cX7_keepSlip 5 = .ok (.aload_n 0, 1) := by decide +kernel
theorem dX7_keepSlip_6 : decode cX7_keepSlip 6 = .ok (.getfield 41, 3) := by decide +kernel
theorem dX7_keepSlip_9 : decode cX7_keepSlip 9 = .ok (.arraylength, 1) := by decide +kernel
theorem dX7_keepSlip_10 : decode cX7_keepSlip 10 = .ok (.if_icmp .ge 10, 3) := by decide +kernel
theorem dX7_keepSlip_13 : decode cX7_keepSlip 13 = .ok (.aload_n 0, 1) := by decide +kernel
theorem dX7_keepSlip_14 : decode cX7_keepSlip 14 = .ok (.getfield 41, 3) := by decide +kernel
theorem dX7_keepSlip_17 : decode cX7_keepSlip 17 = .ok (.iload_n 1, 1) := by decide +kernel
theorem dX7_keepSlip_18 : decode cX7_keepSlip 18 = .ok (.aload_n 2, 1) := by decide +kernel
theorem dX7_keepSlip_19 : decode cX7_keepSlip 19 = .ok (.aastore, 1) := by decide +kernel
theorem dX7_keepSlip_20 : decode cX7_keepSlip 20 = .ok (.return_, 1) := by decide +kernel
set_option maxRecDepth 20000 in
theorem ggX7_slipPart_X5_part : GoodIn wsX7_slipPart wsX5_part := goodIn_r _ [6, 7, 8, 9, 10, 19, 20, 21, 22] (by decide +kernel) (by decide +kernel)
set_option maxRecDepth 20000 in
theorem gX7_slipPart_X5_part : GoodIn wsX7_slipPart (wsV RX7 53 RX5 yX5_part wsX5_part) := goodIn_app (goodIn_of _ (by decide +kernel)) ggX7_slipPart_X5_part
theorem dX7_slipPart_0 : decode cX7_slipPart 0 = .ok (.iload_n 1, 1) := by decide +kernel
theorem dX7_slipPart_1 : decode cX7_slipPart 1 = .ok (.ifCond .lt 21, 3) := by decide +kernel
theorem dX7_slipPart_4 : decode cX7_slipPart 4 = .ok (.iload_n 1, 1) := by decide +kernel
theorem dX7_slipPart_5 : decode cX7_slipPart 5 = .ok (.aload_n 0, 1) := by decide +kernel
theorem dX7_slipPart_6 : decode cX7_slipPart 6 = .ok (.getfield 41, 3) := by decide +kernel
theorem dX7_slipPart_9 : decode cX7_slipPart 9 = .ok (.arraylength, 1) := by decide +kernel
theorem dX7_slipPart_10 : decode cX7_slipPart 10 = .ok (.if_icmp .ge 12, 3) := by decide +kernel
theorem dX7_slipPart_13 : decode cX7_slipPart 13 = .ok (.aload_n 0, 1) := by decide +kernel
theorem dX7_slipPart_14 : decode cX7_slipPart 14 = .ok (.getfield 41, 3) := by decide +kernel
theorem dX7_slipPart_17 : decode cX7_slipPart 17 = .ok (.iload_n 1, 1) := by decide +kernel
theorem dX7_slipPart_18 : decode cX7_slipPart 18 = .ok (.aaload, 1) := by decide +kernel
theorem dX7_slipPart_19 : decode cX7_slipPart 19 = .ok (.goto 4, 3) := by decide +kernel
theorem dX7_slipPart_22 : decode cX7_slipPart 22 = .ok (.aconst_null, 1) := by decide +kernel
theorem dX7_slipPart_23 : decode cX7_slipPart 23 = .ok (.astore_n 3, 1) := by decide +kernel
theorem dX7_slipPart_24 : decode cX7_slipPart 24 = .ok (.aload_n 3, 1) := by decide +kernel
theorem dX7_slipPart_25 : decode cX7_slipPart 25 = .ok (.ifnonnull 7, 3) := by decide +kernel
theorem dX7_slipPart_28 : decode cX7_slipPart 28 = .ok (.iconst 0, 1) := by decide +kernel
theorem dX7_slipPart_29 : decode cX7_slipPart 29 = .ok (.goto 8, 3) := by decide +kernel
theorem dX7_slipPart_32 : decode cX7_slipPart 32 = .ok (.aload_n 3, 1) := by decide +kernel
theorem dX7_slipPart_33 : decode cX7_slipPart 33 = .ok (.iload_n 2, 1) := by decide +kernel
theorem dX7_slipPart_34 : decode cX7_slipPart 34 = .ok (.invokevirtual 53, 3) := by decide +kernel
theorem dX7_slipPart_37 : decode cX7_slipPart 37 = .ok (.ireturn, 1) := by decide +kernel
set_option maxRecDepth 20000 in
theorem ggX8_init_X1_init : GoodIn wsX8_init wsX1_init := goodIn_r _ [24, 25, 2, 3, 26, 27, 54, 55] (by decide +kernel) (by decide +kernel)
set_option maxRecDepth 20000 in
theorem gX8_init_X1_init_n55 : GoodIn wsX8_init (wsX1_init) := ggX8_init_X1_init
set_option maxRecDepth 20000 in
theorem ggX8_init_X2_init : GoodIn wsX8_init wsX2_init := goodIn_r _ [29, 30, 2, 3, 31, 32, 33, 34, 35, 36, 37, 38, 39, 40, 41, 42, 43, 58, 59, 56, 57] (by decide +kernel) (by decide +kernel)
set_option maxRecDepth 20000 in
theorem gX8_init_X2_init_n56 : GoodIn wsX8_init (wsX2_init) := ggX8_init_X2_init
theorem dX8_init_0 : decode cX8_init 0 = .ok (.aload_n 0, 1) := by decide +kernel
theorem dX8_init_1 : decode cX8_init 1 = .ok (.invokespecial 1, 3) := by decide +kernel
theorem dX8_init_4 : decode cX8_init 4 = .ok (.aload_n 0, 1) := by decide +kernel
theorem dX8_init_5 : decode cX8_init 5 = .ok (.iconst 3, 1) := by decide +kernel
theorem dX8_init_6 : decode cX8_init 6 = .ok (.anewarray 9, 3) := by decide +kernel
theorem dX8_init_9 : decode cX8_init 9 = .ok (.putfield 11, 3) := by decide +kernel
theorem dX8_init_12 : decode cX8_init 12 = .ok (.aload_n 0, 1) := by decide +kernel
theorem dX8_init_13 : decode cX8_init 13 = .ok (.iconst 3, 1) := by decide +kernel
theorem dX8_init_14 : decode cX8_init 14 = .ok (.anewarray 15, 3) := by decide +kernel
theorem dX8_init_17 : decode cX8_init 17 = .ok (.putfield 17, 3) := by decide +kernel
theorem dX8_init_20 : decode cX8_init 20 = .ok (.aload_n 0, 1) := by decide +kernel
theorem dX8_init_21 : decode cX8_init 21 = .ok (.bipush 8, 2) := by decide +kernel
theorem dX8_init_23 : decode cX8_init 23 = .ok (.anewarray 21, 3) := by decide +kernel
theorem dX8_init_26 : decode cX8_init 26 = .ok (.putfield 23, 3) := by decide +kernel
theorem dX8_init_29 : decode cX8_init 29 = .ok (.aload_n 0, 1) := by decide +kernel
theorem dX8_init_30 : decode cX8_init 30 = .ok (.bipush 20, 2) := by decide +kernel
theorem dX8_init_32 : decode cX8_init 32 = .ok (.anewarray 27, 3) := by decide +kernel
theorem dX8_init_35 : decode cX8_init 35 = .ok (.putfield 29, 3) := by decide +kernel
theorem dX8_init_38 : decode cX8_init 38 = .ok (.aload_n 0, 1) := by decide +kernel
theorem dX8_init_39 : decode cX8_init 39 = .ok (.bipush 40, 2) := by decide +kernel
theorem dX8_init_41 : decode cX8_init 41 = .ok (.anewarray 33, 3) := by decide +kernel
theorem dX8_init_44 : decode cX8_init 44 = .ok (.putfield 35, 3) := by decide +kernel
theorem dX8_init_47 : decode cX8_init 47 = .ok (.aload_n 0, 1) := by decide +kernel
theorem dX8_init_48 : decode cX8_init 48 = .ok (.iconst 0, 1) := by decide +kernel
theorem dX8_init_49 : decode cX8_init 49 = .ok (.putfield 39, 3) := by decide +kernel
theorem dX8_init_52 : decode cX8_init 52 = .ok (.aload_n 0, 1) := by decide +kernel
theorem dX8_init_53 : decode cX8_init 53 = .ok (.iconst 0, 1) := by decide +kernel
theorem dX8_init_54 : decode cX8_init 54 = .ok (.putfield 43, 3) := by decide +kernel
theorem dX8_init_57 : decode cX8_init 57 = .ok (.aload_n 0, 1) := by decide +kernel
theorem dX8_init_58 : decode cX8_init 58 = .ok (.iconst 0, 1) := by decide +kernel
theorem dX8_init_59 : decode cX8_init 59 = .ok (.putfield 46, 3) := by decide +kernel
theorem dX8_init_62 : decode cX8_init 62 = .ok (.aload_n 0, 1) := by decide +kernel
theorem dX8_init_63 : decode cX8_init 63 = .ok (.sipush 20000, 3) := by decide +kernel
theorem dX8_init_66 : decode cX8_init 66 = .ok (.putfield 49, 3) := by decide +kernel
theorem dX8_init_69 : decode cX8_init 69 = .ok (.aload_n 0, 1) := by decide +kernel
theorem dX8_init_70 : decode cX8_init 70 = .ok (.iconst 0, 1) := by decide +kernel
theorem dX8_init_71 : decode cX8_init 71 = .ok (.putfield 52, 3) := by decide +kernel
theorem dX8_init_74 : decode cX8_init 74 = .ok (.iconst 0, 1) := by decide +kernel
theorem dX8_init_75 : decode cX8_init 75 = .ok (.istore_n 1, 1) := by decide +kernel
theorem dX8_init_76 : decode cX8_init 76 = .ok (.iload_n 1, 1) := by decide +kernel
theorem dX8_init_77 : decode cX8_init 77 = .ok (.aload_n 0, 1) := by decide +kernel
theorem dX8_init_78 : decode cX8_init 78 = .ok (.getfield 11, 3) := by decide +kernel
theorem dX8_init_81 : decode cX8_init 81 = .ok (.arraylength, 1) := by decide +kernel
theorem dX8_init_82 : decode cX8_init 82 = .ok (.if_icmp .ge 22, 3) := by decide +kernel
theorem dX8_init_85 : decode cX8_init 85 = .ok (.aload_n 0, 1) := by decide +kernel
theorem dX8_init_86 : decode cX8_init 86 = .ok (.getfield 11, 3) := by decide +kernel
theorem dX8_init_89 : decode cX8_init 89 = .ok (.iload_n 1, 1) := by decide +kernel
theorem dX8_init_90 : decode cX8_init 90 = .ok (.new 9, 3) := by decide +kernel
theorem dX8_init_93 : decode cX8_init 93 = .ok (.dup, 1) := by decide +kernel
theorem dX8_init_94 : decode cX8_init 94 = .ok (.invokespecial 55, 3) := by decide +kernel
theorem dX8_init_97 : decode cX8_init 97 = .ok (.aastore, 1) := by decide +kernel
theorem dX8_init_98 : decode cX8_init 98 = .ok (.iinc 1 1, 3) := by decide +kernel
theorem dX8_init_101 : decode cX8_init 101 = .ok (.goto (-25), 3) := by decide +kernel
theorem dX8_init_104 : decode cX8_init 104 = .ok (.iconst 0, 1) := by decide +kernel
theorem dX8_init_105 : decode cX8_init 105 = .ok (.istore_n 1, 1) := by decide +kernel
theorem dX8_init_106 : decode cX8_init 106 = .ok (.iload_n 1, 1) := by decide +kernel
theorem dX8_init_107 : decode cX8_init 107 = .ok (.aload_n 0, 1) := by decide +kernel
theorem dX8_init_108 : decode cX8_init 108 = .ok (.getfield 17, 3) := by decide +kernel
theorem dX8_init_111 : decode cX8_init 111 = .ok (.arraylength, 1) := by decide +kernel
theorem dX8_init_112 : decode cX8_init 112 = .ok (.if_icmp .ge 22, 3) := by decide +kernel
theorem dX8_init_115 : decode cX8_init 115 = .ok (.aload_n 0, 1) := by decide +kernel
theorem dX8_init_116 : decode cX8_init 116 = .ok (.getfield 17, 3) := by decide +kernel
theorem dX8_init_119 : decode cX8_init 119 = .ok (.iload_n 1, 1) := by decide +kernel
theorem dX8_init_120 : decode cX8_init 120 = .ok (.new 15, 3) := by decide +kernel
theorem dX8_init_123 : decode cX8_init 123 = .ok (.dup, 1) := by decide +kernel
theorem dX8_init_124 : decode cX8_init 124 = .ok (.invokespecial 56, 3) := by decide +kernel
theorem dX8_init_127 : decode cX8_init 127 = .ok (.aastore, 1) := by decide +kernel
theorem dX8_init_128 : decode cX8_init 128 = .ok (.iinc 1 1, 3) := by decide +kernel
theorem dX8_init_131 : decode cX8_init 131 = .ok (.goto (-25), 3) := by decide +kernel
theorem dX8_init_134 : decode cX8_init 134 = .ok (.return_, 1) := by decide +kernel
set_option maxRecDepth 20000 in
theorem ggX8_addWorker_X8_potOf : GoodIn wsX8_addWorker wsX8_potOf := goodIn_ca (goodIn_r _ [12, 13, 14, 15, 43, 44, 45, 46, 47, 48, 49, 50, 51, 52] (by decide +kernel) (by decide +kernel)) (goodIn_sub (fun _ h => List.mem_cons_of_mem _ (List.mem_append_right _ h)) (by decide +kernel))
set_option maxRecDepth 20000 in
theorem gX8_addWorker_X8_potOf : GoodIn wsX8_addWorker (wsV RX8 57 RX8 yX8_potOf wsX8_potOf) := goodIn_app (goodIn_of _ (by decide +kernel)) ggX8_addWorker_X8_potOf
set_option maxRecDepth 20000 in
theorem ggX8_addWorker_X7_init : GoodIn wsX8_addWorker wsX7_init := goodIn_r _ [18, 19, 20, 21, 22, 23, 24, 25, 26, 27, 28, 29, 30, 31, 32, 33, 34, 35, 36, 37, 38, 39, 40, 41, 42, 61, 62, 53, 54, 55, 56, 57, 58, 59, 60] (by decide +kernel) (by decide +kernel)
set_option maxRecDepth 20000 in
theorem gX8_addWorker_X7_init : GoodIn wsX8_addWorker (wsX7_init) := ggX8_addWorker_X7_init
theorem dX8_addWorker_0 : decode cX8_addWorker 0 = .ok (.aload_n 0, 1) := by decide +kernel
theorem dX8_addWorker_1 : decode cX8_addWorker 1 = .ok (.iload_n 1, 1) := by decide +kernel
theorem dX8_addWorker_2 : decode cX8_addWorker 2 = .ok (.invokevirtual 57, 3) := by decide +kernel
theorem dX8_addWorker_5 : decode cX8_addWorker 5 = .ok (.astore_n 2, 1) := by decide +kernel
theorem dX8_addWorker_6 : decode cX8_addWorker 6 = .ok (.aload_n 0, 1) := by decide +kernel
theorem dX8_addWorker_7 : decode cX8_addWorker 7 = .ok (.getfield 39, 3) := by decide +kernel
theorem dX8_addWorker_10 : decode cX8_addWorker 10 = .ok (.ifCond .lt 15, 3) := by decide +kernel
theorem dX8_addWorker_13 : decode cX8_addWorker 13 = .ok (.aload_n 0, 1) := by decide +kernel
theorem dX8_addWorker_14 : decode cX8_addWorker 14 = .ok (.getfield 39, 3) := by decide +kernel
theorem dX8_addWorker_17 : decode cX8_addWorker 17 = .ok (.aload_n 0, 1) := by decide +kernel
theorem dX8_addWorker_18 : decode cX8_addWorker 18 = .ok (.getfield 23, 3) := by decide +kernel
theorem dX8_addWorker_21 : decode cX8_addWorker 21 = .ok (.arraylength, 1) := by decide +kernel
theorem dX8_addWorker_22 : decode cX8_addWorker 22 = .ok (.if_icmp .lt 13, 3) := by decide +kernel
theorem dX8_addWorker_25 : decode cX8_addWorker 25 = .ok (.new 61, 3) := by decide +kernel
theorem dX8_addWorker_28 : decode cX8_addWorker 28 = .ok (.dup, 1) := by decide +kernel
theorem dX8_addWorker_29 : decode cX8_addWorker 29 = .ok (.ldc 63, 2) := by decide +kernel
theorem dX8_addWorker_31 : decode cX8_addWorker 31 = .ok (.invokespecial 65, 3) := by decide +kernel
theorem dX8_addWorker_34 : decode cX8_addWorker 34 = .ok (.athrow, 1) := by decide +kernel
theorem dX8_addWorker_35 : decode cX8_addWorker 35 = .ok (.aload_n 0, 1) := by decide +kernel
theorem dX8_addWorker_36 : decode cX8_addWorker 36 = .ok (.getfield 23, 3) := by decide +kernel
theorem dX8_addWorker_39 : decode cX8_addWorker 39 = .ok (.aload_n 0, 1) := by decide +kernel
theorem dX8_addWorker_40 : decode cX8_addWorker 40 = .ok (.getfield 39, 3) := by decide +kernel
theorem dX8_addWorker_43 : decode cX8_addWorker 43 = .ok (.new 21, 3) := by decide +kernel
theorem dX8_addWorker_46 : decode cX8_addWorker 46 = .ok (.dup, 1) := by decide +kernel
theorem dX8_addWorker_47 : decode cX8_addWorker 47 = .ok (.aload_n 2, 1) := by decide +kernel
theorem dX8_addWorker_48 : decode cX8_addWorker 48 = .ok (.invokespecial 68, 3) := by decide +kernel
theorem dX8_addWorker_51 : decode cX8_addWorker 51 = .ok (.aastore, 1) := by decide +kernel
theorem dX8_addWorker_52 : decode cX8_addWorker 52 = .ok (.aload_n 0, 1) := by decide +kernel
theorem dX8_addWorker_53 : decode cX8_addWorker 53 = .ok (.dup, 1) := by decide +kernel
theorem dX8_addWorker_54 : decode cX8_addWorker 54 = .ok (.getfield 39, 3) := by decide +kernel
theorem dX8_addWorker_57 : decode cX8_addWorker 57 = .ok (.dup_x1, 1) := by decide +kernel
theorem dX8_addWorker_58 : decode cX8_addWorker 58 = .ok (.iconst 1, 1) := by decide +kernel
theorem dX8_addWorker_59 : decode cX8_addWorker 59 = .ok (.iadd, 1) := by decide +kernel
theorem dX8_addWorker_60 : decode cX8_addWorker 60 = .ok (.putfield 39, 3) := by decide +kernel
theorem dX8_addWorker_63 : decode cX8_addWorker 63 = .ok (.ireturn, 1) := by decide +kernel
set_option maxRecDepth 20000 in
theorem ggX8_setRank_X8_workerOf : GoodIn wsX8_setRank wsX8_workerOf := goodIn_ca (goodIn_r _ [6, 7, 8, 9, 46, 47, 48, 49, 50, 51, 52, 53, 54, 55] (by decide +kernel) (by decide +kernel)) (goodIn_sub (fun _ h => List.mem_cons_of_mem _ (List.mem_append_left _ (List.mem_append_right _ h))) (by decide +kernel))
set_option maxRecDepth 20000 in
theorem gX8_setRank_X8_workerOf : GoodIn wsX8_setRank (wsV RX8 71 RX8 yX8_workerOf wsX8_workerOf) := goodIn_app (goodIn_of _ (by decide +kernel)) ggX8_setRank_X8_workerOf
set_option maxRecDepth 20000 in
theorem ggX8_setRank_X8_ratesOf : GoodIn wsX8_setRank wsX8_ratesOf := goodIn_ca (goodIn_r _ [13, 7, 8, 14, 15, 16, 5, 17, 18, 46, 47, 48, 49, 50, 51, 52, 53, 54, 55] (by decide +kernel) (by decide +kernel)) (goodIn_sub (fun _ h => List.mem_cons_of_mem _ (List.mem_append_left _ (List.mem_append_right _ h))) (by decide +kernel))
set_option maxRecDepth 20000 in
theorem gX8_setRank_X8_ratesOf : GoodIn wsX8_setRank (wsV RX8 75 RX8 yX8_ratesOf wsX8_ratesOf) := goodIn_app (goodIn_of _ (by decide +kernel)) ggX8_setRank_X8_ratesOf
set_option maxRecDepth 20000 in
theorem ggX8_setRank_X8_checkWeek : GoodIn wsX8_setRank wsX8_checkWeek := goodIn_ca (goodIn_r _ [21, 22, 23, 5, 24, 25, 26] (by decide +kernel) (by decide +kernel)) (goodIn_sub (fun _ h => List.mem_cons_of_mem _ (List.mem_append_right _ h)) (by decide +kernel))
set_option maxRecDepth 20000 in
theorem gX8_setRank_X8_checkWeek : GoodIn wsX8_setRank (va_wsS RX8 79 yX8_checkWeek wsX8_checkWeek) := goodIn_app (goodIn_of _ (by decide +kernel)) ggX8_setRank_X8_checkWeek
set_option maxRecDepth 20000 in
theorem ggX8_setRank_X3_inWeek : GoodIn wsX8_setRank wsX3_inWeek := goodIn_r _ [31, 32, 56, 57] (by decide +kernel) (by decide +kernel)
set_option maxRecDepth 20000 in
theorem gX8_setRank_X3_inWeek : GoodIn wsX8_setRank (wsV RX8 87 RX3 yX3_inWeek wsX3_inWeek) := goodIn_app (goodIn_of _ (by decide +kernel)) ggX8_setRank_X3_inWeek
set_option maxRecDepth 20000 in
theorem ggX8_setRank_X3_tell : GoodIn wsX8_setRank wsX3_tell := goodIn_r _ [36, 32, 37, 56, 57] (by decide +kernel) (by decide +kernel)
set_option maxRecDepth 20000 in
theorem gX8_setRank_X3_tell : GoodIn wsX8_setRank (wsV RX8 93 RX3 yX3_tell wsX3_tell) := goodIn_app (goodIn_of _ (by decide +kernel)) ggX8_setRank_X3_tell
theorem dX8_setRank_0 : decode cX8_setRank 0 = .ok (.aload_n 0, 1) := by decide +kernel
theorem dX8_setRank_1 : decode cX8_setRank 1 = .ok (.iload_n 1, 1) := by decide +kernel
theorem dX8_setRank_2 : decode cX8_setRank 2 = .ok (.invokevirtual 71, 3) := by decide +kernel
theorem dX8_setRank_5 : decode cX8_setRank 5 = .ok (.astore 4, 2) := by decide +kernel
theorem dX8_setRank_7 : decode cX8_setRank 7 = .ok (.aload_n 0, 1) := by decide +kernel
theorem dX8_setRank_8 : decode cX8_setRank 8 = .ok (.iload_n 3, 1) := by decide +kernel
theorem dX8_setRank_9 : decode cX8_setRank 9 = .ok (.invokevirtual 75, 3) := by decide +kernel
theorem dX8_setRank_12 : decode cX8_setRank 12 = .ok (.pop, 1) := by decide +kernel
theorem dX8_setRank_13 : decode cX8_setRank 13 = .ok (.iload_n 2, 1) := by decide +kernel
theorem dX8_setRank_14 : decode cX8_setRank 14 = .ok (.invokestatic 79, 3) := by decide +kernel
theorem dX8_setRank_17 : decode cX8_setRank 17 = .ok (.aload 4, 2) := by decide +kernel
theorem dX8_setRank_19 : decode cX8_setRank 19 = .ok (.getfield 83, 3) := by decide +kernel
theorem dX8_setRank_22 : decode cX8_setRank 22 = .ok (.iload_n 2, 1) := by decide +kernel
theorem dX8_setRank_23 : decode cX8_setRank 23 = .ok (.invokevirtual 87, 3) := by decide +kernel
theorem dX8_setRank_26 : decode cX8_setRank 26 = .ok (.istore 5, 2) := by decide +kernel
theorem dX8_setRank_28 : decode cX8_setRank 28 = .ok (.aload 4, 2) := by decide +kernel
theorem dX8_setRank_30 : decode cX8_setRank 30 = .ok (.getfield 83, 3) := by decide +kernel
theorem dX8_setRank_33 : decode cX8_setRank 33 = .ok (.iload_n 2, 1) := by decide +kernel
theorem dX8_setRank_34 : decode cX8_setRank 34 = .ok (.iload_n 3, 1) := by decide +kernel
theorem dX8_setRank_35 : decode cX8_setRank 35 = .ok (.invokevirtual 93, 3) := by decide +kernel
theorem dX8_setRank_38 : decode cX8_setRank 38 = .ok (.iload 5, 2) := by decide +kernel
theorem dX8_setRank_40 : decode cX8_setRank 40 = .ok (.ireturn, 1) := by decide +kernel
set_option maxRecDepth 20000 in
theorem ggX8_setRates_X8_ratesOf : GoodIn wsX8_setRates wsX8_ratesOf := goodIn_ca (goodIn_r _ [7, 8, 9, 10, 11, 12, 6, 13, 14, 36, 37, 38, 39, 40, 41, 42, 43, 44, 45] (by decide +kernel) (by decide +kernel)) (goodIn_sub (fun _ h => List.mem_cons_of_mem _ (List.mem_append_left _ (List.mem_append_right _ h))) (by decide +kernel))
set_option maxRecDepth 20000 in
theorem gX8_setRates_X8_ratesOf : GoodIn wsX8_setRates (wsV RX8 75 RX8 yX8_ratesOf wsX8_ratesOf) := goodIn_app (goodIn_of _ (by decide +kernel)) ggX8_setRates_X8_ratesOf
set_option maxRecDepth 20000 in
theorem ggX8_setRates_X8_checkWeek : GoodIn wsX8_setRates wsX8_checkWeek := goodIn_ca (goodIn_r _ [17, 18, 19, 6, 20, 21, 22] (by decide +kernel) (by decide +kernel)) (goodIn_sub (fun _ h => List.mem_cons_of_mem _ (List.mem_append_right _ h)) (by decide +kernel))
set_option maxRecDepth 20000 in
theorem gX8_setRates_X8_checkWeek : GoodIn wsX8_setRates (va_wsS RX8 79 yX8_checkWeek wsX8_checkWeek) := goodIn_app (goodIn_of _ (by decide +kernel)) ggX8_setRates_X8_checkWeek
set_option maxRecDepth 20000 in
theorem ggX8_setRates_X8_checkRange : GoodIn wsX8_setRates wsX8_checkRange := goodIn_ca (goodIn_r _ [20, 21, 22] (by decide +kernel) (by decide +kernel)) (goodIn_sub (fun _ h => List.mem_cons_of_mem _ (List.mem_append_right _ h)) (by decide +kernel))
set_option maxRecDepth 20000 in
theorem gX8_setRates_X8_checkRange : GoodIn wsX8_setRates (va_wsS RX8 97 yX8_checkRange wsX8_checkRange) := goodIn_app (goodIn_of _ (by decide +kernel)) ggX8_setRates_X8_checkRange
set_option maxRecDepth 20000 in
theorem ggX8_setRates_X3_inWeek : GoodIn wsX8_setRates wsX3_inWeek := goodIn_r _ [27, 28, 46, 47] (by decide +kernel) (by decide +kernel)
set_option maxRecDepth 20000 in
theorem gX8_setRates_X3_inWeek : GoodIn wsX8_setRates (wsV RX8 87 RX3 yX3_inWeek wsX3_inWeek) := goodIn_app (goodIn_of _ (by decide +kernel)) ggX8_setRates_X3_inWeek
set_option maxRecDepth 20000 in
theorem ggX8_setRates_X3_tell : GoodIn wsX8_setRates wsX3_tell := goodIn_r _ [32, 28, 33, 46, 47] (by decide +kernel) (by decide +kernel)
set_option maxRecDepth 20000 in
theorem gX8_setRates_X3_tell : GoodIn wsX8_setRates (wsV RX8 93 RX3 yX3_tell wsX3_tell) := goodIn_app (goodIn_of _ (by decide +kernel)) ggX8_setRates_X3_tell
theorem dX8_setRates_0 : decode cX8_setRates 0 = .ok (.aload_n 0, 1) := by decide +kernel
theorem dX8_setRates_1 : decode cX8_setRates 1 = .ok (.iload_n 1, 1) := by decide +kernel
theorem dX8_setRates_2 : decode cX8_setRates 2 = .ok (.invokevirtual 75, 3) := by decide +kernel
theorem dX8_setRates_5 : decode cX8_setRates 5 = .ok (.astore 5, 2) := by decide +kernel
theorem dX8_setRates_7 : decode cX8_setRates 7 = .ok (.iload_n 2, 1) := by decide +kernel
theorem dX8_setRates_8 : decode cX8_setRates 8 = .ok (.invokestatic 79, 3) := by decide +kernel
theorem dX8_setRates_11 : decode cX8_setRates 11 = .ok (.iload_n 3, 1) := by decide +kernel
theorem dX8_setRates_12 : decode cX8_setRates 12 = .ok (.iconst 0, 1) := by decide +kernel
theorem dX8_setRates_13 : decode cX8_setRates 13 = .ok (.sipush 10000, 3) := by decide +kernel
theorem dX8_setRates_16 : decode cX8_setRates 16 = .ok (.invokestatic 97, 3) := by decide +kernel
theorem dX8_setRates_19 : decode cX8_setRates 19 = .ok (.iload 4, 2) := by decide +kernel
theorem dX8_setRates_21 : decode cX8_setRates 21 = .ok (.iconst 0, 1) := by decide +kernel
theorem dX8_setRates_22 : decode cX8_setRates 22 = .ok (.sipush 10000, 3) := by decide +kernel
theorem dX8_setRates_25 : decode cX8_setRates 25 = .ok (.invokestatic 97, 3) := by decide +kernel
theorem dX8_setRates_28 : decode cX8_setRates 28 = .ok (.aload 5, 2) := by decide +kernel
theorem dX8_setRates_30 : decode cX8_setRates 30 = .ok (.getfield 101, 3) := by decide +kernel
theorem dX8_setRates_33 : decode cX8_setRates 33 = .ok (.iload_n 2, 1) := by decide +kernel
theorem dX8_setRates_34 : decode cX8_setRates 34 = .ok (.invokevirtual 87, 3) := by decide +kernel
theorem dX8_setRates_37 : decode cX8_setRates 37 = .ok (.istore 6, 2) := by decide +kernel
theorem dX8_setRates_39 : decode cX8_setRates 39 = .ok (.aload 5, 2) := by decide +kernel
theorem dX8_setRates_41 : decode cX8_setRates 41 = .ok (.getfield 101, 3) := by decide +kernel
theorem dX8_setRates_44 : decode cX8_setRates 44 = .ok (.iload_n 2, 1) := by decide +kernel
theorem dX8_setRates_45 : decode cX8_setRates 45 = .ok (.iload_n 3, 1) := by decide +kernel
theorem dX8_setRates_46 : decode cX8_setRates 46 = .ok (.invokevirtual 93, 3) := by decide +kernel
theorem dX8_setRates_49 : decode cX8_setRates 49 = .ok (.aload 5, 2) := by decide +kernel
theorem dX8_setRates_51 : decode cX8_setRates 51 = .ok (.getfield 104, 3) := by decide +kernel
theorem dX8_setRates_54 : decode cX8_setRates 54 = .ok (.iload_n 2, 1) := by decide +kernel
theorem dX8_setRates_55 : decode cX8_setRates 55 = .ok (.iload 4, 2) := by decide +kernel
theorem dX8_setRates_57 : decode cX8_setRates 57 = .ok (.invokevirtual 93, 3) := by decide +kernel
theorem dX8_setRates_60 : decode cX8_setRates 60 = .ok (.iload 6, 2) := by decide +kernel
theorem dX8_setRates_62 : decode cX8_setRates 62 = .ok (.ireturn, 1) := by decide +kernel
set_option maxRecDepth 20000 in
theorem ggX8_come_X8_workerOf : GoodIn wsX8_come wsX8_workerOf := goodIn_ca (goodIn_r _ [9, 10, 11, 12, 56, 57, 58, 59, 60, 61, 62, 63, 64, 65] (by decide +kernel) (by decide +kernel)) (goodIn_sub (fun _ h => List.mem_cons_of_mem _ (List.mem_append_left _ (List.mem_append_right _ h))) (by decide +kernel))
set_option maxRecDepth 20000 in
theorem gX8_come_X8_workerOf : GoodIn wsX8_come (wsV RX8 71 RX8 yX8_workerOf wsX8_workerOf) := goodIn_app (goodIn_of _ (by decide +kernel)) ggX8_come_X8_workerOf
set_option maxRecDepth 20000 in
theorem ggX8_come_X8_checkRange : GoodIn wsX8_come wsX8_checkRange := goodIn_ca (goodIn_r _ [15, 16, 17] (by decide +kernel) (by decide +kernel)) (goodIn_sub (fun _ h => List.mem_cons_of_mem _ (List.mem_append_right _ h)) (by decide +kernel))
set_option maxRecDepth 20000 in
theorem gX8_come_X8_checkRange : GoodIn wsX8_come (va_wsS RX8 97 yX8_checkRange wsX8_checkRange) := goodIn_app (goodIn_of _ (by decide +kernel)) ggX8_come_X8_checkRange
set_option maxRecDepth 20000 in
theorem ggX8_come_X8_checkWeek : GoodIn wsX8_come wsX8_checkWeek := goodIn_ca (goodIn_r _ [20, 13, 14, 8, 15, 16, 17] (by decide +kernel) (by decide +kernel)) (goodIn_sub (fun _ h => List.mem_cons_of_mem _ (List.mem_append_right _ h)) (by decide +kernel))
set_option maxRecDepth 20000 in
theorem gX8_come_X8_checkWeek : GoodIn wsX8_come (va_wsS RX8 79 yX8_checkWeek wsX8_checkWeek) := goodIn_app (goodIn_of _ (by decide +kernel)) ggX8_come_X8_checkWeek
set_option maxRecDepth 20000 in
theorem ggX8_come_X8_checkHours : GoodIn wsX8_come wsX8_checkHours := goodIn_ca (goodIn_r _ [23, 13, 14, 8, 15, 16, 17] (by decide +kernel) (by decide +kernel)) (goodIn_sub (fun _ h => List.mem_cons_of_mem _ (List.mem_append_right _ h)) (by decide +kernel))
set_option maxRecDepth 20000 in
theorem gX8_come_X8_checkHours : GoodIn wsX8_come (va_wsS RX8 107 yX8_checkHours wsX8_checkHours) := goodIn_app (goodIn_of _ (by decide +kernel)) ggX8_come_X8_checkHours
set_option maxRecDepth 20000 in
theorem ggX8_come_X7_sheet : GoodIn wsX8_come wsX7_sheet := goodIn_r _ [28, 29, 48, 49, 50, 51, 52, 53, 54, 55] (by decide +kernel) (by decide +kernel)
set_option maxRecDepth 20000 in
theorem gX8_come_X7_sheet : GoodIn wsX8_come (wsV RX8 110 RX7 yX7_sheet wsX7_sheet) := goodIn_app (goodIn_of _ (by decide +kernel)) ggX8_come_X7_sheet
set_option maxRecDepth 20000 in
theorem ggX8_come_X4_init : GoodIn wsX8_come wsX4_init := goodIn_r _ [32, 33, 34, 35, 36, 37, 38, 45, 46, 47] (by decide +kernel) (by decide +kernel)
set_option maxRecDepth 20000 in
theorem gX8_come_X4_init : GoodIn wsX8_come (wsX4_init) := ggX8_come_X4_init
set_option maxRecDepth 20000 in
theorem ggX8_come_X7_take : GoodIn wsX8_come wsX7_take := goodIn_r _ [42, 29, 43, 44, 25, 26, 27, 28, 48, 49, 50, 51, 52, 53, 54, 55] (by decide +kernel) (by decide +kernel)
set_option maxRecDepth 20000 in
theorem gX8_come_X7_take : GoodIn wsX8_come (wsV RX8 118 RX7 yX7_take wsX7_take) := goodIn_app (goodIn_of _ (by decide +kernel)) ggX8_come_X7_take
theorem dX8_come_0 : decode cX8_come 0 = .ok (.aload_n 0, 1) := by decide +kernel
theorem dX8_come_1 : decode cX8_come 1 = .ok (.iload_n 1, 1) := by decide +kernel
theorem dX8_come_2 : decode cX8_come 2 = .ok (.invokevirtual 71, 3) := by decide +kernel
theorem dX8_come_5 : decode cX8_come 5 = .ok (.astore 6, 2) := by decide +kernel
theorem dX8_come_7 : decode cX8_come 7 = .ok (.iload_n 2, 1) := by decide +kernel
theorem dX8_come_8 : decode cX8_come 8 = .ok (.iconst 0, 1) := by decide +kernel
theorem dX8_come_9 : decode cX8_come 9 = .ok (.bipush 19, 2) := by decide +kernel
theorem dX8_come_11 : decode cX8_come 11 = .ok (.invokestatic 97, 3) := by decide +kernel
theorem dX8_come_14 : decode cX8_come 14 = .ok (.iload_n 3, 1) := by decide +kernel
theorem dX8_come_15 : decode cX8_come 15 = .ok (.invokestatic 79, 3) := by decide +kernel
theorem dX8_come_18 : decode cX8_come 18 = .ok (.iload 4, 2) := by decide +kernel
theorem dX8_come_20 : decode cX8_come 20 = .ok (.iload 5, 2) := by decide +kernel
theorem dX8_come_22 : decode cX8_come 22 = .ok (.invokestatic 107, 3) := by decide +kernel
theorem dX8_come_25 : decode cX8_come 25 = .ok (.aload 6, 2) := by decide +kernel
theorem dX8_come_27 : decode cX8_come 27 = .ok (.iload_n 2, 1) := by decide +kernel
theorem dX8_come_28 : decode cX8_come 28 = .ok (.invokevirtual 110, 3) := by decide +kernel
theorem dX8_come_31 : decode cX8_come 31 = .ok (.ifnonnull 21, 3) := by decide +kernel
theorem dX8_come_34 : decode cX8_come 34 = .ok (.aload 6, 2) := by decide +kernel
theorem dX8_come_36 : decode cX8_come 36 = .ok (.iload_n 2, 1) := by decide +kernel
theorem dX8_come_37 : decode cX8_come 37 = .ok (.new 114, 3) := by decide +kernel
theorem dX8_come_40 : decode cX8_come 40 = .ok (.dup, 1) := by decide +kernel
theorem dX8_come_41 : decode cX8_come 41 = .ok (.iload_n 3, 1) := by decide +kernel
theorem dX8_come_42 : decode cX8_come 42 = .ok (.iload 4, 2) := by decide +kernel
theorem dX8_come_44 : decode cX8_come 44 = .ok (.iload 5, 2) := by decide +kernel
theorem dX8_come_46 : decode cX8_come 46 = .ok (.invokespecial 116, 3) := by decide +kernel
theorem dX8_come_49 : decode cX8_come 49 = .ok (.invokevirtual 118, 3) := by decide +kernel
theorem dX8_come_52 : decode cX8_come 52 = .ok (.aload 6, 2) := by decide +kernel
theorem dX8_come_54 : decode cX8_come 54 = .ok (.getfield 122, 3) := by decide +kernel
theorem dX8_come_57 : decode cX8_come 57 = .ok (.ireturn, 1) := by decide +kernel
set_option maxRecDepth 20000 in
theorem ggX8_correct_X8_workerOf : GoodIn wsX8_correct wsX8_workerOf := goodIn_ca (goodIn_r _ [9, 1, 2, 10, 28, 29, 30, 31, 32, 33, 34, 35, 36, 37] (by decide +kernel) (by decide +kernel)) (goodIn_sub (fun _ h => List.mem_cons_of_mem _ (List.mem_append_left _ (List.mem_append_right _ h))) (by decide +kernel))
set_option maxRecDepth 20000 in
theorem gX8_correct_X8_workerOf : GoodIn wsX8_correct (wsV RX8 71 RX8 yX8_workerOf wsX8_workerOf) := goodIn_app (goodIn_of _ (by decide +kernel)) ggX8_correct_X8_workerOf
set_option maxRecDepth 20000 in
theorem ggX8_correct_X7_sheet : GoodIn wsX8_correct wsX7_sheet := goodIn_r _ [15, 16, 38, 39, 40, 41, 42, 43, 44, 45] (by decide +kernel) (by decide +kernel)
set_option maxRecDepth 20000 in
theorem gX8_correct_X7_sheet : GoodIn wsX8_correct (wsV RX8 110 RX7 yX7_sheet wsX7_sheet) := goodIn_app (goodIn_of _ (by decide +kernel)) ggX8_correct_X7_sheet
set_option maxRecDepth 20000 in
theorem ggX8_correct_X8_checkHours : GoodIn wsX8_correct wsX8_checkHours := goodIn_ca (goodIn_r _ [19, 20, 21, 8, 22, 23, 24] (by decide +kernel) (by decide +kernel)) (goodIn_sub (fun _ h => List.mem_cons_of_mem _ (List.mem_append_right _ h)) (by decide +kernel))
set_option maxRecDepth 20000 in
theorem gX8_correct_X8_checkHours : GoodIn wsX8_correct (va_wsS RX8 107 yX8_checkHours wsX8_checkHours) := goodIn_app (goodIn_of _ (by decide +kernel)) ggX8_correct_X8_checkHours
theorem dX8_correct_0 : decode cX8_correct 0 = .ok (.aload_n 0, 1) := by decide +kernel
theorem dX8_correct_1 : decode cX8_correct 1 = .ok (.iload_n 1, 1) := by decide +kernel
theorem dX8_correct_2 : decode cX8_correct 2 = .ok (.invokevirtual 71, 3) := by decide +kernel
theorem dX8_correct_5 : decode cX8_correct 5 = .ok (.iload_n 2, 1) := by decide +kernel
theorem dX8_correct_6 : decode cX8_correct 6 = .ok (.invokevirtual 110, 3) := by decide +kernel
theorem dX8_correct_9 : decode cX8_correct 9 = .ok (.astore 5, 2) := by decide +kernel
theorem dX8_correct_11 : decode cX8_correct 11 = .ok (.aload 5, 2) := by decide +kernel
theorem dX8_correct_13 : decode cX8_correct 13 = .ok (.ifnonnull 13, 3) := by decide +kernel
theorem dX8_correct_16 : decode cX8_correct 16 = .ok (.new 125, 3) := by decide +kernel
theorem dX8_correct_19 : decode cX8_correct 19 = .ok (.dup, 1) := by decide +kernel
theorem dX8_correct_20 : decode cX8_correct 20 = .ok (.ldc 127, 2) := by decide +kernel
theorem dX8_correct_22 : decode cX8_correct 22 = .ok (.invokespecial 129, 3) := by decide +kernel
theorem dX8_correct_25 : decode cX8_correct 25 = .ok (.athrow, 1) := by decide +kernel
theorem dX8_correct_26 : decode cX8_correct 26 = .ok (.iload_n 3, 1) := by decide +kernel
theorem dX8_correct_27 : decode cX8_correct 27 = .ok (.iload 4, 2) := by decide +kernel
theorem dX8_correct_29 : decode cX8_correct 29 = .ok (.invokestatic 107, 3) := by decide +kernel
theorem dX8_correct_32 : decode cX8_correct 32 = .ok (.aload 5, 2) := by decide +kernel
theorem dX8_correct_34 : decode cX8_correct 34 = .ok (.getfield 130, 3) := by decide +kernel
theorem dX8_correct_37 : decode cX8_correct 37 = .ok (.aload 5, 2) := by decide +kernel
theorem dX8_correct_39 : decode cX8_correct 39 = .ok (.getfield 132, 3) := by decide +kernel
theorem dX8_correct_42 : decode cX8_correct 42 = .ok (.iadd, 1) := by decide +kernel
theorem dX8_correct_43 : decode cX8_correct 43 = .ok (.istore 6, 2) := by decide +kernel
theorem dX8_correct_45 : decode cX8_correct 45 = .ok (.aload 5, 2) := by decide +kernel
theorem dX8_correct_47 : decode cX8_correct 47 = .ok (.iload_n 3, 1) := by decide +kernel
theorem dX8_correct_48 : decode cX8_correct 48 = .ok (.putfield 130, 3) := by decide +kernel
theorem dX8_correct_51 : decode cX8_correct 51 = .ok (.aload 5, 2) := by decide +kernel
theorem dX8_correct_53 : decode cX8_correct 53 = .ok (.iload 4, 2) := by decide +kernel
theorem dX8_correct_55 : decode cX8_correct 55 = .ok (.putfield 132, 3) := by decide +kernel
theorem dX8_correct_58 : decode cX8_correct 58 = .ok (.iload 6, 2) := by decide +kernel
theorem dX8_correct_60 : decode cX8_correct 60 = .ok (.ireturn, 1) := by decide +kernel
set_option maxRecDepth 20000 in
theorem ggX8_acknowledged_X8_workerOf : GoodIn wsX8_acknowledged wsX8_workerOf := goodIn_ca (goodIn_r _ [6, 7, 8, 9, 18, 19, 20, 21, 22, 23, 24, 25, 26, 27] (by decide +kernel) (by decide +kernel)) (goodIn_sub (fun _ h => List.mem_cons_of_mem _ (List.mem_append_right _ h)) (by decide +kernel))
set_option maxRecDepth 20000 in
theorem gX8_acknowledged_X8_workerOf : GoodIn wsX8_acknowledged (wsV RX8 71 RX8 yX8_workerOf wsX8_workerOf) := goodIn_app (goodIn_of _ (by decide +kernel)) ggX8_acknowledged_X8_workerOf
theorem dX8_acknowledged_0 : decode cX8_acknowledged 0 = .ok (.aload_n 0, 1) := by decide +kernel
theorem dX8_acknowledged_1 : decode cX8_acknowledged 1 = .ok (.iload_n 1, 1) := by decide +kernel
theorem dX8_acknowledged_2 : decode cX8_acknowledged 2 = .ok (.invokevirtual 71, 3) := by decide +kernel
theorem dX8_acknowledged_5 : decode cX8_acknowledged 5 = .ok (.getfield 122, 3) := by decide +kernel
theorem dX8_acknowledged_8 : decode cX8_acknowledged 8 = .ok (.ireturn, 1) := by decide +kernel
set_option maxRecDepth 20000 in
theorem ggX8_due_X8_workerOf : GoodIn wsX8_due wsX8_workerOf := goodIn_ca (goodIn_r _ [5, 6, 7, 8, 48, 49, 50, 51, 52, 53, 54, 55, 56, 57] (by decide +kernel) (by decide +kernel)) (goodIn_sub (fun _ h => List.mem_cons_of_mem _ (List.mem_append_left _ (List.mem_append_right _ h))) (by decide +kernel))
set_option maxRecDepth 20000 in
theorem gX8_due_X8_workerOf : GoodIn wsX8_due (wsV RX8 71 RX8 yX8_workerOf wsX8_workerOf) := goodIn_app (goodIn_of _ (by decide +kernel)) ggX8_due_X8_workerOf
set_option maxRecDepth 20000 in
theorem ggX8_due_X8_checkWeek : GoodIn wsX8_due wsX8_checkWeek := goodIn_ca (goodIn_r _ [11, 12, 13, 4, 14, 15, 16] (by decide +kernel) (by decide +kernel)) (goodIn_sub (fun _ h => List.mem_cons_of_mem _ (List.mem_append_right _ h)) (by decide +kernel))
set_option maxRecDepth 20000 in
theorem gX8_due_X8_checkWeek : GoodIn wsX8_due (va_wsS RX8 79 yX8_checkWeek wsX8_checkWeek) := goodIn_app (goodIn_of _ (by decide +kernel)) ggX8_due_X8_checkWeek
set_option maxRecDepth 20000 in
theorem ggX8_due_X8_dueBetween : GoodIn wsX8_due wsX8_dueBetween := goodIn_r _ [20, 21, 22, 23, 24, 25, 26, 27, 28, 29, 30, 31, 32, 33, 34, 35, 36, 37, 38, 4, 39, 40, 41, 42, 43, 44, 45, 46, 47, 58, 59, 60, 61, 62, 63, 64, 65, 66, 67, 68, 69, 70, 48, 49, 50, 51, 52, 53, 54, 55, 56, 57, 71, 72] (by decide +kernel) (by decide +kernel)
set_option maxRecDepth 20000 in
theorem gX8_due_X8_dueBetween : GoodIn wsX8_due (wsV RX8 134 RX8 yX8_dueBetween wsX8_dueBetween) := goodIn_app (goodIn_of _ (by decide +kernel)) ggX8_due_X8_dueBetween
theorem dX8_due_0 : decode cX8_due 0 = .ok (.aload_n 0, 1) := by decide +kernel
theorem dX8_due_1 : decode cX8_due 1 = .ok (.iload_n 1, 1) := by decide +kernel
theorem dX8_due_2 : decode cX8_due 2 = .ok (.invokevirtual 71, 3) := by decide +kernel
theorem dX8_due_5 : decode cX8_due 5 = .ok (.astore_n 3, 1) := by decide +kernel
theorem dX8_due_6 : decode cX8_due 6 = .ok (.iload_n 2, 1) := by decide +kernel
theorem dX8_due_7 : decode cX8_due 7 = .ok (.invokestatic 79, 3) := by decide +kernel
theorem dX8_due_10 : decode cX8_due 10 = .ok (.aload_n 0, 1) := by decide +kernel
theorem dX8_due_11 : decode cX8_due 11 = .ok (.aload_n 3, 1) := by decide +kernel
theorem dX8_due_12 : decode cX8_due 12 = .ok (.iload_n 2, 1) := by decide +kernel
theorem dX8_due_13 : decode cX8_due 13 = .ok (.iload_n 2, 1) := by decide +kernel
theorem dX8_due_14 : decode cX8_due 14 = .ok (.invokevirtual 134, 3) := by decide +kernel
theorem dX8_due_17 : decode cX8_due 17 = .ok (.ireturn, 1) := by decide +kernel
set_option maxRecDepth 20000 in
theorem ggX8_order_X8_workerOf : GoodIn wsX8_order wsX8_workerOf := goodIn_ca (goodIn_r _ [14, 15, 16, 17, 33, 34, 35, 36, 37, 38, 39, 40, 41, 42] (by decide +kernel) (by decide +kernel)) (goodIn_sub (fun _ h => List.mem_cons_of_mem _ (List.mem_append_left _ (List.mem_append_right _ h))) (by decide +kernel))
set_option maxRecDepth 20000 in
theorem gX8_order_X8_workerOf : GoodIn wsX8_order (wsV RX8 71 RX8 yX8_workerOf wsX8_workerOf) := goodIn_app (goodIn_of _ (by decide +kernel)) ggX8_order_X8_workerOf
set_option maxRecDepth 20000 in
theorem ggX8_order_X8_checkRange : GoodIn wsX8_order wsX8_checkRange := goodIn_ca (goodIn_r _ [20, 21, 22] (by decide +kernel) (by decide +kernel)) (goodIn_sub (fun _ h => List.mem_cons_of_mem _ (List.mem_append_right _ h)) (by decide +kernel))
set_option maxRecDepth 20000 in
theorem gX8_order_X8_checkRange : GoodIn wsX8_order (va_wsS RX8 97 yX8_checkRange wsX8_checkRange) := goodIn_app (goodIn_of _ (by decide +kernel)) ggX8_order_X8_checkRange
set_option maxRecDepth 20000 in
theorem ggX8_order_X0_init : GoodIn wsX8_order wsX0_init := goodIn_r _ [25, 26, 27, 28, 29, 30, 31, 32, 43, 44, 45, 46] (by decide +kernel) (by decide +kernel)
set_option maxRecDepth 20000 in
theorem gX8_order_X0_init : GoodIn wsX8_order (wsX0_init) := ggX8_order_X0_init
theorem dX8_order_0 : decode cX8_order 0 = .ok (.aload_n 0, 1) := by decide +kernel
theorem dX8_order_1 : decode cX8_order 1 = .ok (.iload_n 1, 1) := by decide +kernel
theorem dX8_order_2 : decode cX8_order 2 = .ok (.invokevirtual 71, 3) := by decide +kernel
theorem dX8_order_5 : decode cX8_order 5 = .ok (.astore 5, 2) := by decide +kernel
theorem dX8_order_7 : decode cX8_order 7 = .ok (.iload_n 2, 1) := by decide +kernel
theorem dX8_order_8 : decode cX8_order 8 = .ok (.iconst 0, 1) := by decide +kernel
theorem dX8_order_9 : decode cX8_order 9 = .ok (.iconst 2, 1) := by decide +kernel
theorem dX8_order_10 : decode cX8_order 10 = .ok (.invokestatic 97, 3) := by decide +kernel
theorem dX8_order_13 : decode cX8_order 13 = .ok (.iload_n 3, 1) := by decide +kernel
theorem dX8_order_14 : decode cX8_order 14 = .ok (.iconst 1, 1) := by decide +kernel
theorem dX8_order_15 : decode cX8_order 15 = .ok (.ldc 138, 2) := by decide +kernel
theorem dX8_order_17 : decode cX8_order 17 = .ok (.invokestatic 97, 3) := by decide +kernel
theorem dX8_order_20 : decode cX8_order 20 = .ok (.iload 4, 2) := by decide +kernel
theorem dX8_order_22 : decode cX8_order 22 = .ok (.iconst 1, 1) := by decide +kernel
theorem dX8_order_23 : decode cX8_order 23 = .ok (.ldc 139, 2) := by decide +kernel
theorem dX8_order_25 : decode cX8_order 25 = .ok (.invokestatic 97, 3) := by decide +kernel
theorem dX8_order_28 : decode cX8_order 28 = .ok (.aload_n 0, 1) := by decide +kernel
theorem dX8_order_29 : decode cX8_order 29 = .ok (.getfield 43, 3) := by decide +kernel
theorem dX8_order_32 : decode cX8_order 32 = .ok (.ifCond .lt 15, 3) := by decide +kernel
theorem dX8_order_35 : decode cX8_order 35 = .ok (.aload_n 0, 1) := by decide +kernel
theorem dX8_order_36 : decode cX8_order 36 = .ok (.getfield 43, 3) := by decide +kernel
theorem dX8_order_39 : decode cX8_order 39 = .ok (.aload_n 0, 1) := by decide +kernel
theorem dX8_order_40 : decode cX8_order 40 = .ok (.getfield 29, 3) := by decide +kernel
theorem dX8_order_43 : decode cX8_order 43 = .ok (.arraylength, 1) := by decide +kernel
theorem dX8_order_44 : decode cX8_order 44 = .ok (.if_icmp .lt 13, 3) := by decide +kernel
theorem dX8_order_47 : decode cX8_order 47 = .ok (.new 61, 3) := by decide +kernel
theorem dX8_order_50 : decode cX8_order 50 = .ok (.dup, 1) := by decide +kernel
theorem dX8_order_51 : decode cX8_order 51 = .ok (.ldc 140, 2) := by decide +kernel
theorem dX8_order_53 : decode cX8_order 53 = .ok (.invokespecial 65, 3) := by decide +kernel
theorem dX8_order_56 : decode cX8_order 56 = .ok (.athrow, 1) := by decide +kernel
theorem dX8_order_57 : decode cX8_order 57 = .ok (.aload_n 0, 1) := by decide +kernel
theorem dX8_order_58 : decode cX8_order 58 = .ok (.getfield 29, 3) := by decide +kernel
theorem dX8_order_61 : decode cX8_order 61 = .ok (.aload_n 0, 1) := by decide +kernel
theorem dX8_order_62 : decode cX8_order 62 = .ok (.getfield 43, 3) := by decide +kernel
theorem dX8_order_65 : decode cX8_order 65 = .ok (.new 27, 3) := by decide +kernel
theorem dX8_order_68 : decode cX8_order 68 = .ok (.dup, 1) := by decide +kernel
theorem dX8_order_69 : decode cX8_order 69 = .ok (.aload 5, 2) := by decide +kernel
theorem dX8_order_71 : decode cX8_order 71 = .ok (.iload_n 2, 1) := by decide +kernel
theorem dX8_order_72 : decode cX8_order 72 = .ok (.iload_n 3, 1) := by decide +kernel
theorem dX8_order_73 : decode cX8_order 73 = .ok (.iload 4, 2) := by decide +kernel
theorem dX8_order_75 : decode cX8_order 75 = .ok (.invokespecial 142, 3) := by decide +kernel
theorem dX8_order_78 : decode cX8_order 78 = .ok (.aastore, 1) := by decide +kernel
theorem dX8_order_79 : decode cX8_order 79 = .ok (.aload_n 0, 1) := by decide +kernel
theorem dX8_order_80 : decode cX8_order 80 = .ok (.dup, 1) := by decide +kernel
theorem dX8_order_81 : decode cX8_order 81 = .ok (.getfield 43, 3) := by decide +kernel
theorem dX8_order_84 : decode cX8_order 84 = .ok (.dup_x1, 1) := by decide +kernel
theorem dX8_order_85 : decode cX8_order 85 = .ok (.iconst 1, 1) := by decide +kernel
theorem dX8_order_86 : decode cX8_order 86 = .ok (.iadd, 1) := by decide +kernel
theorem dX8_order_87 : decode cX8_order 87 = .ok (.putfield 43, 3) := by decide +kernel
theorem dX8_order_90 : decode cX8_order 90 = .ok (.ireturn, 1) := by decide +kernel
theorem dX8_left_0 : decode cX8_left 0 = .ok (.iload_n 1, 1) := by decide +kernel
theorem dX8_left_1 : decode cX8_left 1 = .ok (.ifCond .lt 21, 3) := by decide +kernel
theorem dX8_left_4 : decode cX8_left 4 = .ok (.iload_n 1, 1) := by decide +kernel
theorem dX8_left_5 : decode cX8_left 5 = .ok (.aload_n 0, 1) := by decide +kernel
theorem dX8_left_6 : decode cX8_left 6 = .ok (.getfield 29, 3) := by decide +kernel
theorem dX8_left_9 : decode cX8_left 9 = .ok (.arraylength, 1) := by decide +kernel
theorem dX8_left_10 : decode cX8_left 10 = .ok (.if_icmp .ge 12, 3) := by decide +kernel
theorem dX8_left_13 : decode cX8_left 13 = .ok (.aload_n 0, 1) := by decide +kernel
theorem dX8_left_14 : decode cX8_left 14 = .ok (.getfield 29, 3) := by decide +kernel
theorem dX8_left_17 : decode cX8_left 17 = .ok (.iload_n 1, 1) := by decide +kernel
theorem dX8_left_18 : decode cX8_left 18 = .ok (.aaload, 1) := by decide +kernel
theorem dX8_left_19 : decode cX8_left 19 = .ok (.goto 4, 3) := by decide +kernel
theorem dX8_left_22 : decode cX8_left 22 = .ok (.aconst_null, 1) := by decide +kernel
theorem dX8_left_23 : decode cX8_left 23 = .ok (.astore_n 2, 1) := by decide +kernel
theorem dX8_left_24 : decode cX8_left 24 = .ok (.aload_n 2, 1) := by decide +kernel
theorem dX8_left_25 : decode cX8_left 25 = .ok (.ifnonnull 13, 3) := by decide +kernel
theorem dX8_left_28 : decode cX8_left 28 = .ok (.new 125, 3) := by decide +kernel
theorem dX8_left_31 : decode cX8_left 31 = .ok (.dup, 1) := by decide +kernel
theorem dX8_left_32 : decode cX8_left 32 = .ok (.ldc 145, 2) := by decide +kernel
theorem dX8_left_34 : decode cX8_left 34 = .ok (.invokespecial 129, 3) := by decide +kernel
theorem dX8_left_37 : decode cX8_left 37 = .ok (.athrow, 1) := by decide +kernel
theorem dX8_left_38 : decode cX8_left 38 = .ok (.aload_n 2, 1) := by decide +kernel
theorem dX8_left_39 : decode cX8_left 39 = .ok (.getfield 147, 3) := by decide +kernel
theorem dX8_left_42 : decode cX8_left 42 = .ok (.ireturn, 1) := by decide +kernel
set_option maxRecDepth 20000 in
theorem ggX8_setFloor_X8_checkRange : GoodIn wsX8_setFloor wsX8_checkRange := goodIn_ca (goodIn_r _ [6, 7, 8] (by decide +kernel) (by decide +kernel)) (goodIn_sub (fun _ h => List.mem_cons_of_mem _ (List.mem_append_right _ h)) (by decide +kernel))
set_option maxRecDepth 20000 in
theorem gX8_setFloor_X8_checkRange : GoodIn wsX8_setFloor (va_wsS RX8 97 yX8_checkRange wsX8_checkRange) := goodIn_app (goodIn_of _ (by decide +kernel)) ggX8_setFloor_X8_checkRange
theorem dX8_setFloor_0 : decode cX8_setFloor 0 = .ok (.iload_n 1, 1) := by decide +kernel
theorem dX8_setFloor_1 : decode cX8_setFloor 1 = .ok (.iconst 0, 1) := by decide +kernel
theorem dX8_setFloor_2 : decode cX8_setFloor 2 = .ok (.ldc 138, 2) := by decide +kernel
theorem dX8_setFloor_4 : decode cX8_setFloor 4 = .ok (.invokestatic 97, 3) := by decide +kernel
theorem dX8_setFloor_7 : decode cX8_setFloor 7 = .ok (.aload_n 0, 1) := by decide +kernel
theorem dX8_setFloor_8 : decode cX8_setFloor 8 = .ok (.getfield 49, 3) := by decide +kernel
theorem dX8_setFloor_11 : decode cX8_setFloor 11 = .ok (.istore_n 2, 1) := by decide +kernel
theorem dX8_setFloor_12 : decode cX8_setFloor 12 = .ok (.aload_n 0, 1) := by decide +kernel
theorem dX8_setFloor_13 : decode cX8_setFloor 13 = .ok (.iload_n 1, 1) := by decide +kernel
theorem dX8_setFloor_14 : decode cX8_setFloor 14 = .ok (.putfield 49, 3) := by decide +kernel
theorem dX8_setFloor_17 : decode cX8_setFloor 17 = .ok (.iload_n 2, 1) := by decide +kernel
theorem dX8_setFloor_18 : decode cX8_setFloor 18 = .ok (.ireturn, 1) := by decide +kernel
set_option maxRecDepth 20000 in
theorem ggX8_fill_X8_potOf : GoodIn wsX8_fill wsX8_potOf := goodIn_ca (goodIn_r _ [13, 14, 15, 16, 42, 43, 44, 45, 46, 47, 48, 49, 50, 51] (by decide +kernel) (by decide +kernel)) (goodIn_sub (fun _ h => List.mem_cons_of_mem _ (List.mem_append_left _ (List.mem_append_right _ h))) (by decide +kernel))
set_option maxRecDepth 20000 in
theorem gX8_fill_X8_potOf : GoodIn wsX8_fill (wsV RX8 57 RX8 yX8_potOf wsX8_potOf) := goodIn_app (goodIn_of _ (by decide +kernel)) ggX8_fill_X8_potOf
set_option maxRecDepth 20000 in
theorem ggX8_fill_X8_checkRange : GoodIn wsX8_fill wsX8_checkRange := goodIn_ca (goodIn_r _ [19, 20, 21] (by decide +kernel) (by decide +kernel)) (goodIn_sub (fun _ h => List.mem_cons_of_mem _ (List.mem_append_right _ h)) (by decide +kernel))
set_option maxRecDepth 20000 in
theorem gX8_fill_X8_checkRange : GoodIn wsX8_fill (va_wsS RX8 97 yX8_checkRange wsX8_checkRange) := goodIn_app (goodIn_of _ (by decide +kernel)) ggX8_fill_X8_checkRange
set_option maxRecDepth 20000 in
theorem ggX8_fill_X6_init : GoodIn wsX8_fill wsX6_init := goodIn_r _ [24, 25, 26, 27, 28, 29, 30, 52, 53, 54] (by decide +kernel) (by decide +kernel)
set_option maxRecDepth 20000 in
theorem gX8_fill_X6_init : GoodIn wsX8_fill (wsX6_init) := ggX8_fill_X6_init
set_option maxRecDepth 20000 in
theorem ggX8_fill_X1_receive : GoodIn wsX8_fill wsX1_receive := goodIn_r _ [35, 36, 37, 38, 39, 40, 41, 55, 56] (by decide +kernel) (by decide +kernel)
set_option maxRecDepth 20000 in
theorem gX8_fill_X1_receive : GoodIn wsX8_fill (wsV RX8 155 RX1 yX1_receive wsX1_receive) := goodIn_app (goodIn_of _ (by decide +kernel)) ggX8_fill_X1_receive
theorem dX8_fill_0 : decode cX8_fill 0 = .ok (.aload_n 0, 1) := by decide +kernel
theorem dX8_fill_1 : decode cX8_fill 1 = .ok (.iload_n 1, 1) := by decide +kernel
theorem dX8_fill_2 : decode cX8_fill 2 = .ok (.invokevirtual 57, 3) := by decide +kernel
theorem dX8_fill_5 : decode cX8_fill 5 = .ok (.astore_n 3, 1) := by decide +kernel
theorem dX8_fill_6 : decode cX8_fill 6 = .ok (.iload_n 2, 1) := by decide +kernel
theorem dX8_fill_7 : decode cX8_fill 7 = .ok (.iconst 1, 1) := by decide +kernel
theorem dX8_fill_8 : decode cX8_fill 8 = .ok (.ldc 138, 2) := by decide +kernel
theorem dX8_fill_10 : decode cX8_fill 10 = .ok (.invokestatic 97, 3) := by decide +kernel
theorem dX8_fill_13 : decode cX8_fill 13 = .ok (.aload_n 0, 1) := by decide +kernel
theorem dX8_fill_14 : decode cX8_fill 14 = .ok (.getfield 46, 3) := by decide +kernel
theorem dX8_fill_17 : decode cX8_fill 17 = .ok (.ifCond .lt 15, 3) := by decide +kernel
theorem dX8_fill_20 : decode cX8_fill 20 = .ok (.aload_n 0, 1) := by decide +kernel
theorem dX8_fill_21 : decode cX8_fill 21 = .ok (.getfield 46, 3) := by decide +kernel
theorem dX8_fill_24 : decode cX8_fill 24 = .ok (.aload_n 0, 1) := by decide +kernel
theorem dX8_fill_25 : decode cX8_fill 25 = .ok (.getfield 35, 3) := by decide +kernel
theorem dX8_fill_28 : decode cX8_fill 28 = .ok (.arraylength, 1) := by decide +kernel
theorem dX8_fill_29 : decode cX8_fill 29 = .ok (.if_icmp .lt 13, 3) := by decide +kernel
theorem dX8_fill_32 : decode cX8_fill 32 = .ok (.new 61, 3) := by decide +kernel
theorem dX8_fill_35 : decode cX8_fill 35 = .ok (.dup, 1) := by decide +kernel
theorem dX8_fill_36 : decode cX8_fill 36 = .ok (.ldc 150, 2) := by decide +kernel
theorem dX8_fill_38 : decode cX8_fill 38 = .ok (.invokespecial 65, 3) := by decide +kernel
theorem dX8_fill_41 : decode cX8_fill 41 = .ok (.athrow, 1) := by decide +kernel
theorem dX8_fill_42 : decode cX8_fill 42 = .ok (.aload_n 0, 1) := by decide +kernel
theorem dX8_fill_43 : decode cX8_fill 43 = .ok (.getfield 35, 3) := by decide +kernel
theorem dX8_fill_46 : decode cX8_fill 46 = .ok (.aload_n 0, 1) := by decide +kernel
theorem dX8_fill_47 : decode cX8_fill 47 = .ok (.getfield 46, 3) := by decide +kernel
theorem dX8_fill_50 : decode cX8_fill 50 = .ok (.new 33, 3) := by decide +kernel
theorem dX8_fill_53 : decode cX8_fill 53 = .ok (.dup, 1) := by decide +kernel
theorem dX8_fill_54 : decode cX8_fill 54 = .ok (.aload_n 3, 1) := by decide +kernel
theorem dX8_fill_55 : decode cX8_fill 55 = .ok (.iload_n 2, 1) := by decide +kernel
theorem dX8_fill_56 : decode cX8_fill 56 = .ok (.invokespecial 152, 3) := by decide +kernel
theorem dX8_fill_59 : decode cX8_fill 59 = .ok (.aastore, 1) := by decide +kernel
theorem dX8_fill_60 : decode cX8_fill 60 = .ok (.aload_n 3, 1) := by decide +kernel
theorem dX8_fill_61 : decode cX8_fill 61 = .ok (.iload_n 2, 1) := by decide +kernel
theorem dX8_fill_62 : decode cX8_fill 62 = .ok (.invokevirtual 155, 3) := by decide +kernel
theorem dX8_fill_65 : decode cX8_fill 65 = .ok (.aload_n 0, 1) := by decide +kernel
theorem dX8_fill_66 : decode cX8_fill 66 = .ok (.dup, 1) := by decide +kernel
theorem dX8_fill_67 : decode cX8_fill 67 = .ok (.getfield 46, 3) := by decide +kernel
theorem dX8_fill_70 : decode cX8_fill 70 = .ok (.dup_x1, 1) := by decide +kernel
theorem dX8_fill_71 : decode cX8_fill 71 = .ok (.iconst 1, 1) := by decide +kernel
theorem dX8_fill_72 : decode cX8_fill 72 = .ok (.iadd, 1) := by decide +kernel
theorem dX8_fill_73 : decode cX8_fill 73 = .ok (.putfield 46, 3) := by decide +kernel
theorem dX8_fill_76 : decode cX8_fill 76 = .ok (.ireturn, 1) := by decide +kernel
set_option maxRecDepth 20000 in
theorem ggX8_bounce_X1_lose : GoodIn wsX8_bounce wsX1_lose := goodIn_r _ [14, 15, 16, 17, 18, 19, 20, 34, 35] (by decide +kernel) (by decide +kernel)
set_option maxRecDepth 20000 in
theorem gX8_bounce_X1_lose : GoodIn wsX8_bounce (wsV RX8 173 RX1 yX1_lose wsX1_lose) := goodIn_app (goodIn_of _ (by decide +kernel)) ggX8_bounce_X1_lose
theorem dX8_bounce_0 : decode cX8_bounce 0 = .ok (.iload_n 1, 1) := by decide +kernel
theorem dX8_bounce_1 : decode cX8_bounce 1 = .ok (.ifCond .lt 21, 3) := by decide +kernel
theorem dX8_bounce_4 : decode cX8_bounce 4 = .ok (.iload_n 1, 1) := by decide +kernel
theorem dX8_bounce_5 : decode cX8_bounce 5 = .ok (.aload_n 0, 1) := by decide +kernel
theorem dX8_bounce_6 : decode cX8_bounce 6 = .ok (.getfield 35, 3) := by decide +kernel
theorem dX8_bounce_9 : decode cX8_bounce 9 = .ok (.arraylength, 1) := by decide +kernel
theorem dX8_bounce_10 : decode cX8_bounce 10 = .ok (.if_icmp .ge 12, 3) := by decide +kernel
theorem dX8_bounce_13 : decode cX8_bounce 13 = .ok (.aload_n 0, 1) := by decide +kernel
theorem dX8_bounce_14 : decode cX8_bounce 14 = .ok (.getfield 35, 3) := by decide +kernel
theorem dX8_bounce_17 : decode cX8_bounce 17 = .ok (.iload_n 1, 1) := by decide +kernel
theorem dX8_bounce_18 : decode cX8_bounce 18 = .ok (.aaload, 1) := by decide +kernel
theorem dX8_bounce_19 : decode cX8_bounce 19 = .ok (.goto 4, 3) := by decide +kernel
theorem dX8_bounce_22 : decode cX8_bounce 22 = .ok (.aconst_null, 1) := by decide +kernel
theorem dX8_bounce_23 : decode cX8_bounce 23 = .ok (.astore_n 2, 1) := by decide +kernel
theorem dX8_bounce_24 : decode cX8_bounce 24 = .ok (.aload_n 2, 1) := by decide +kernel
theorem dX8_bounce_25 : decode cX8_bounce 25 = .ok (.ifnonnull 13, 3) := by decide +kernel
theorem dX8_bounce_28 : decode cX8_bounce 28 = .ok (.new 125, 3) := by decide +kernel
theorem dX8_bounce_31 : decode cX8_bounce 31 = .ok (.dup, 1) := by decide +kernel
theorem dX8_bounce_32 : decode cX8_bounce 32 = .ok (.ldc 158, 2) := by decide +kernel
theorem dX8_bounce_34 : decode cX8_bounce 34 = .ok (.invokespecial 129, 3) := by decide +kernel
theorem dX8_bounce_37 : decode cX8_bounce 37 = .ok (.athrow, 1) := by decide +kernel
theorem dX8_bounce_38 : decode cX8_bounce 38 = .ok (.aload_n 2, 1) := by decide +kernel
theorem dX8_bounce_39 : decode cX8_bounce 39 = .ok (.getfield 160, 3) := by decide +kernel
theorem dX8_bounce_42 : decode cX8_bounce 42 = .ok (.ifCond .eq 13, 3) := by decide +kernel
theorem dX8_bounce_45 : decode cX8_bounce 45 = .ok (.new 61, 3) := by decide +kernel
theorem dX8_bounce_48 : decode cX8_bounce 48 = .ok (.dup, 1) := by decide +kernel
theorem dX8_bounce_49 : decode cX8_bounce 49 = .ok (.ldc 164, 2) := by decide +kernel
theorem dX8_bounce_51 : decode cX8_bounce 51 = .ok (.invokespecial 65, 3) := by decide +kernel
theorem dX8_bounce_54 : decode cX8_bounce 54 = .ok (.athrow, 1) := by decide +kernel
theorem dX8_bounce_55 : decode cX8_bounce 55 = .ok (.aload_n 2, 1) := by decide +kernel
theorem dX8_bounce_56 : decode cX8_bounce 56 = .ok (.iconst 1, 1) := by decide +kernel
theorem dX8_bounce_57 : decode cX8_bounce 57 = .ok (.putfield 160, 3) := by decide +kernel
theorem dX8_bounce_60 : decode cX8_bounce 60 = .ok (.aload_n 2, 1) := by decide +kernel
theorem dX8_bounce_61 : decode cX8_bounce 61 = .ok (.getfield 166, 3) := by decide +kernel
theorem dX8_bounce_64 : decode cX8_bounce 64 = .ok (.aload_n 2, 1) := by decide +kernel
theorem dX8_bounce_65 : decode cX8_bounce 65 = .ok (.getfield 170, 3) := by decide +kernel
theorem dX8_bounce_68 : decode cX8_bounce 68 = .ok (.invokevirtual 173, 3) := by decide +kernel
theorem dX8_bounce_71 : decode cX8_bounce 71 = .ok (.aload_n 2, 1) := by decide +kernel
theorem dX8_bounce_72 : decode cX8_bounce 72 = .ok (.getfield 166, 3) := by decide +kernel
theorem dX8_bounce_75 : decode cX8_bounce 75 = .ok (.getfield 176, 3) := by decide +kernel
theorem dX8_bounce_78 : decode cX8_bounce 78 = .ok (.ireturn, 1) := by decide +kernel
set_option maxRecDepth 20000 in
theorem ggX8_pot_X8_potOf : GoodIn wsX8_pot wsX8_potOf := goodIn_ca (goodIn_r _ [6, 7, 8, 9, 12, 13, 14, 15, 16, 17, 18, 19, 20, 21] (by decide +kernel) (by decide +kernel)) (goodIn_sub (fun _ h => List.mem_cons_of_mem _ (List.mem_append_right _ h)) (by decide +kernel))
set_option maxRecDepth 20000 in
theorem gX8_pot_X8_potOf : GoodIn wsX8_pot (wsV RX8 57 RX8 yX8_potOf wsX8_potOf) := goodIn_app (goodIn_of _ (by decide +kernel)) ggX8_pot_X8_potOf
theorem dX8_pot_0 : decode cX8_pot 0 = .ok (.aload_n 0, 1) := by decide +kernel
theorem dX8_pot_1 : decode cX8_pot 1 = .ok (.iload_n 1, 1) := by decide +kernel
theorem dX8_pot_2 : decode cX8_pot 2 = .ok (.invokevirtual 57, 3) := by decide +kernel
theorem dX8_pot_5 : decode cX8_pot 5 = .ok (.getfield 179, 3) := by decide +kernel
theorem dX8_pot_8 : decode cX8_pot 8 = .ok (.ireturn, 1) := by decide +kernel
set_option maxRecDepth 20000 in
theorem ggX8_shortage_X8_potOf : GoodIn wsX8_shortage wsX8_potOf := goodIn_ca (goodIn_r _ [6, 7, 8, 9, 12, 13, 14, 15, 16, 17, 18, 19, 20, 21] (by decide +kernel) (by decide +kernel)) (goodIn_sub (fun _ h => List.mem_cons_of_mem _ (List.mem_append_right _ h)) (by decide +kernel))
set_option maxRecDepth 20000 in
theorem gX8_shortage_X8_potOf : GoodIn wsX8_shortage (wsV RX8 57 RX8 yX8_potOf wsX8_potOf) := goodIn_app (goodIn_of _ (by decide +kernel)) ggX8_shortage_X8_potOf
theorem dX8_shortage_0 : decode cX8_shortage 0 = .ok (.aload_n 0, 1) := by decide +kernel
theorem dX8_shortage_1 : decode cX8_shortage 1 = .ok (.iload_n 1, 1) := by decide +kernel
theorem dX8_shortage_2 : decode cX8_shortage 2 = .ok (.invokevirtual 57, 3) := by decide +kernel
theorem dX8_shortage_5 : decode cX8_shortage 5 = .ok (.getfield 176, 3) := by decide +kernel
theorem dX8_shortage_8 : decode cX8_shortage 8 = .ok (.ireturn, 1) := by decide +kernel
set_option maxRecDepth 20000 in
theorem ggX8_close_X8_settle : GoodIn wsX8_close wsX8_settle := goodIn_r _ [9, 10, 11, 12, 13, 14, 8, 15, 3, 16, 17, 18, 19, 20, 21, 22, 23, 24, 25, 26, 27, 28, 29, 30, 31, 32, 33, 34, 35, 36, 37, 38, 39, 40, 41, 42, 43, 44, 45, 46, 47, 48, 49, 50, 51, 52, 53, 54, 55, 56, 57, 58, 59, 60, 61, 62, 63, 64, 65, 66, 67, 68, 69, 70, 71, 72, 73, 74, 75, 76, 77, 78, 79, 80, 81, 82, 83, 84, 85, 86, 87, 88, 89, 90, 91, 92, 93, 94, 95, 96, 97, 98, 99, 100, 111, 112, 113, 114, 115, 116, 117, 118, 119, 120, 101, 102, 103, 104, 105, 106, 107, 108, 109, 110, 121, 122, 123, 124, 125, 126, 127, 128, 129, 130, 131, 132, 133, 134, 135] (by decide +kernel) (by decide +kernel)
set_option maxRecDepth 20000 in
theorem gX8_close_X8_settle : GoodIn wsX8_close (wsV RX8 184 RX8 yX8_settle wsX8_settle) := goodIn_app (goodIn_of _ (by decide +kernel)) ggX8_close_X8_settle
theorem dX8_close_0 : decode cX8_close 0 = .ok (.aload_n 0, 1) := by decide +kernel
theorem dX8_close_1 : decode cX8_close 1 = .ok (.getfield 52, 3) := by decide +kernel
theorem dX8_close_4 : decode cX8_close 4 = .ok (.bipush 31, 2) := by decide +kernel
theorem dX8_close_6 : decode cX8_close 6 = .ok (.if_icmp .lt 13, 3) := by decide +kernel
theorem dX8_close_9 : decode cX8_close 9 = .ok (.new 61, 3) := by decide +kernel
theorem dX8_close_12 : decode cX8_close 12 = .ok (.dup, 1) := by decide +kernel
theorem dX8_close_13 : decode cX8_close 13 = .ok (.ldc 182, 2) := by decide +kernel
theorem dX8_close_15 : decode cX8_close 15 = .ok (.invokespecial 65, 3) := by decide +kernel
theorem dX8_close_18 : decode cX8_close 18 = .ok (.athrow, 1) := by decide +kernel
theorem dX8_close_19 : decode cX8_close 19 = .ok (.iconst 0, 1) := by decide +kernel
theorem dX8_close_20 : decode cX8_close 20 = .ok (.istore_n 1, 1) := by decide +kernel
theorem dX8_close_21 : decode cX8_close 21 = .ok (.aload_n 0, 1) := by decide +kernel
theorem dX8_close_22 : decode cX8_close 22 = .ok (.getfield 23, 3) := by decide +kernel
theorem dX8_close_25 : decode cX8_close 25 = .ok (.astore_n 2, 1) := by decide +kernel
theorem dX8_close_26 : decode cX8_close 26 = .ok (.aload_n 2, 1) := by decide +kernel
theorem dX8_close_27 : decode cX8_close 27 = .ok (.arraylength, 1) := by decide +kernel
theorem dX8_close_28 : decode cX8_close 28 = .ok (.istore_n 3, 1) := by decide +kernel
theorem dX8_close_29 : decode cX8_close 29 = .ok (.iconst 0, 1) := by decide +kernel
theorem dX8_close_30 : decode cX8_close 30 = .ok (.istore 4, 2) := by decide +kernel
theorem dX8_close_32 : decode cX8_close 32 = .ok (.iload 4, 2) := by decide +kernel
theorem dX8_close_34 : decode cX8_close 34 = .ok (.iload_n 3, 1) := by decide +kernel
theorem dX8_close_35 : decode cX8_close 35 = .ok (.if_icmp .ge 32, 3) := by decide +kernel
theorem dX8_close_38 : decode cX8_close 38 = .ok (.aload_n 2, 1) := by decide +kernel
theorem dX8_close_39 : decode cX8_close 39 = .ok (.iload 4, 2) := by decide +kernel
theorem dX8_close_41 : decode cX8_close 41 = .ok (.aaload, 1) := by decide +kernel
theorem dX8_close_42 : decode cX8_close 42 = .ok (.astore 5, 2) := by decide +kernel
theorem dX8_close_44 : decode cX8_close 44 = .ok (.aload 5, 2) := by decide +kernel
theorem dX8_close_46 : decode cX8_close 46 = .ok (.ifnull 15, 3) := by decide +kernel
theorem dX8_close_49 : decode cX8_close 49 = .ok (.aload_n 0, 1) := by decide +kernel
theorem dX8_close_50 : decode cX8_close 50 = .ok (.aload 5, 2) := by decide +kernel
theorem dX8_close_52 : decode cX8_close 52 = .ok (.invokevirtual 184, 3) := by decide +kernel
theorem dX8_close_55 : decode cX8_close 55 = .ok (.ifCond .eq 6, 3) := by decide +kernel
theorem dX8_close_58 : decode cX8_close 58 = .ok (.iinc 1 1, 3) := by decide +kernel
theorem dX8_close_61 : decode cX8_close 61 = .ok (.iinc 4 1, 3) := by decide +kernel
theorem dX8_close_64 : decode cX8_close 64 = .ok (.goto (-32), 3) := by decide +kernel
theorem dX8_close_67 : decode cX8_close 67 = .ok (.aload_n 0, 1) := by decide +kernel
theorem dX8_close_68 : decode cX8_close 68 = .ok (.dup, 1) := by decide +kernel
theorem dX8_close_69 : decode cX8_close 69 = .ok (.getfield 52, 3) := by decide +kernel
theorem dX8_close_72 : decode cX8_close 72 = .ok (.iconst 1, 1) := by decide +kernel
theorem dX8_close_73 : decode cX8_close 73 = .ok (.iadd, 1) := by decide +kernel
theorem dX8_close_74 : decode cX8_close 74 = .ok (.putfield 52, 3) := by decide +kernel
theorem dX8_close_77 : decode cX8_close 77 = .ok (.iload_n 1, 1) := by decide +kernel
theorem dX8_close_78 : decode cX8_close 78 = .ok (.ireturn, 1) := by decide +kernel
theorem dX8_week_0 : decode cX8_week 0 = .ok (.aload_n 0, 1) := by decide +kernel
theorem dX8_week_1 : decode cX8_week 1 = .ok (.getfield 52, 3) := by decide +kernel
theorem dX8_week_4 : decode cX8_week 4 = .ok (.ireturn, 1) := by decide +kernel
set_option maxRecDepth 20000 in
theorem ggX8_slip_X8_workerOf : GoodIn wsX8_slip wsX8_workerOf := goodIn_ca (goodIn_r _ [5, 6, 7, 8, 32, 33, 34, 35, 36, 37, 38, 39, 40, 41] (by decide +kernel) (by decide +kernel)) (goodIn_sub (fun _ h => List.mem_cons_of_mem _ (List.mem_append_left _ (List.mem_append_right _ h))) (by decide +kernel))
set_option maxRecDepth 20000 in
theorem gX8_slip_X8_workerOf : GoodIn wsX8_slip (wsV RX8 71 RX8 yX8_workerOf wsX8_workerOf) := goodIn_app (goodIn_of _ (by decide +kernel)) ggX8_slip_X8_workerOf
set_option maxRecDepth 20000 in
theorem ggX8_slip_X8_checkWeek : GoodIn wsX8_slip wsX8_checkWeek := goodIn_ca (goodIn_r _ [11, 12, 13, 4, 14, 15, 16] (by decide +kernel) (by decide +kernel)) (goodIn_sub (fun _ h => List.mem_cons_of_mem _ (List.mem_append_right _ h)) (by decide +kernel))
set_option maxRecDepth 20000 in
theorem gX8_slip_X8_checkWeek : GoodIn wsX8_slip (va_wsS RX8 79 yX8_checkWeek wsX8_checkWeek) := goodIn_app (goodIn_of _ (by decide +kernel)) ggX8_slip_X8_checkWeek
set_option maxRecDepth 20000 in
theorem ggX8_slip_X8_checkRange : GoodIn wsX8_slip wsX8_checkRange := goodIn_ca (goodIn_r _ [14, 15, 16] (by decide +kernel) (by decide +kernel)) (goodIn_sub (fun _ h => List.mem_cons_of_mem _ (List.mem_append_right _ h)) (by decide +kernel))
set_option maxRecDepth 20000 in
theorem gX8_slip_X8_checkRange : GoodIn wsX8_slip (va_wsS RX8 97 yX8_checkRange wsX8_checkRange) := goodIn_app (goodIn_of _ (by decide +kernel)) ggX8_slip_X8_checkRange
set_option maxRecDepth 20000 in
theorem ggX8_slip_X7_slipPart : GoodIn wsX8_slip wsX7_slipPart := goodIn_r _ [21, 22, 23, 24, 25, 26, 27, 28, 29, 30, 31, 42, 43, 44, 45, 46, 47, 48, 49, 50, 51, 52, 53] (by decide +kernel) (by decide +kernel)
set_option maxRecDepth 20000 in
theorem gX8_slip_X7_slipPart : GoodIn wsX8_slip (wsV RX8 188 RX7 yX7_slipPart wsX7_slipPart) := goodIn_app (goodIn_of _ (by decide +kernel)) ggX8_slip_X7_slipPart
theorem dX8_slip_0 : decode cX8_slip 0 = .ok (.aload_n 0, 1) := by decide +kernel
theorem dX8_slip_1 : decode cX8_slip 1 = .ok (.iload_n 1, 1) := by decide +kernel
theorem dX8_slip_2 : decode cX8_slip 2 = .ok (.invokevirtual 71, 3) := by decide +kernel
theorem dX8_slip_5 : decode cX8_slip 5 = .ok (.astore 4, 2) := by decide +kernel
theorem dX8_slip_7 : decode cX8_slip 7 = .ok (.iload_n 2, 1) := by decide +kernel
theorem dX8_slip_8 : decode cX8_slip 8 = .ok (.invokestatic 79, 3) := by decide +kernel
theorem dX8_slip_11 : decode cX8_slip 11 = .ok (.iload_n 3, 1) := by decide +kernel
theorem dX8_slip_12 : decode cX8_slip 12 = .ok (.iconst 0, 1) := by decide +kernel
theorem dX8_slip_13 : decode cX8_slip 13 = .ok (.iconst 3, 1) := by decide +kernel
theorem dX8_slip_14 : decode cX8_slip 14 = .ok (.invokestatic 97, 3) := by decide +kernel
theorem dX8_slip_17 : decode cX8_slip 17 = .ok (.aload 4, 2) := by decide +kernel
theorem dX8_slip_19 : decode cX8_slip 19 = .ok (.iload_n 2, 1) := by decide +kernel
theorem dX8_slip_20 : decode cX8_slip 20 = .ok (.iload_n 3, 1) := by decide +kernel
theorem dX8_slip_21 : decode cX8_slip 21 = .ok (.invokevirtual 188, 3) := by decide +kernel
theorem dX8_slip_24 : decode cX8_slip 24 = .ok (.ireturn, 1) := by decide +kernel
set_option maxRecDepth 20000 in
theorem ggX8_toTakeBack_X8_workerOf : GoodIn wsX8_toTakeBack wsX8_workerOf := goodIn_ca (goodIn_r _ [6, 7, 8, 9, 18, 19, 20, 21, 22, 23, 24, 25, 26, 27] (by decide +kernel) (by decide +kernel)) (goodIn_sub (fun _ h => List.mem_cons_of_mem _ (List.mem_append_right _ h)) (by decide +kernel))
set_option maxRecDepth 20000 in
theorem gX8_toTakeBack_X8_workerOf : GoodIn wsX8_toTakeBack (wsV RX8 71 RX8 yX8_workerOf wsX8_workerOf) := goodIn_app (goodIn_of _ (by decide +kernel)) ggX8_toTakeBack_X8_workerOf
theorem dX8_toTakeBack_0 : decode cX8_toTakeBack 0 = .ok (.aload_n 0, 1) := by decide +kernel
theorem dX8_toTakeBack_1 : decode cX8_toTakeBack 1 = .ok (.iload_n 1, 1) := by decide +kernel
theorem dX8_toTakeBack_2 : decode cX8_toTakeBack 2 = .ok (.invokevirtual 71, 3) := by decide +kernel
theorem dX8_toTakeBack_5 : decode cX8_toTakeBack 5 = .ok (.getfield 192, 3) := by decide +kernel
theorem dX8_toTakeBack_8 : decode cX8_toTakeBack 8 = .ok (.ireturn, 1) := by decide +kernel
set_option maxRecDepth 20000 in
theorem ggX8_claim_X8_workerOf : GoodIn wsX8_claim wsX8_workerOf := goodIn_ca (goodIn_r _ [5, 6, 7, 8, 46, 47, 48, 49, 50, 51, 52, 53, 54, 55] (by decide +kernel) (by decide +kernel)) (goodIn_sub (fun _ h => List.mem_cons_of_mem _ (List.mem_append_right _ h)) (by decide +kernel))
set_option maxRecDepth 20000 in
theorem gX8_claim_X8_workerOf : GoodIn wsX8_claim (wsV RX8 71 RX8 yX8_workerOf wsX8_workerOf) := goodIn_app (goodIn_of _ (by decide +kernel)) ggX8_claim_X8_workerOf
set_option maxRecDepth 20000 in
theorem ggX8_claim_X8_claimOf : GoodIn wsX8_claim wsX8_claimOf := goodIn_r _ [12, 13, 14, 15, 16, 17, 4, 18, 19, 20, 21, 22, 23, 24, 25, 26, 27, 28, 29, 30, 31, 32, 33, 34, 35, 36, 37, 38, 39, 40, 41, 42, 43, 44, 45, 46, 47, 48, 49, 50, 51, 52, 53, 54, 55, 56, 57, 58, 59, 60, 61, 62, 63, 64, 65, 66, 67, 68, 69, 70] (by decide +kernel) (by decide +kernel)
set_option maxRecDepth 20000 in
theorem gX8_claim_X8_claimOf : GoodIn wsX8_claim (wsV RX8 195 RX8 yX8_claimOf wsX8_claimOf) := goodIn_app (goodIn_of _ (by decide +kernel)) ggX8_claim_X8_claimOf
theorem dX8_claim_0 : decode cX8_claim 0 = .ok (.aload_n 0, 1) := by decide +kernel
theorem dX8_claim_1 : decode cX8_claim 1 = .ok (.aload_n 0, 1) := by decide +kernel
theorem dX8_claim_2 : decode cX8_claim 2 = .ok (.iload_n 1, 1) := by decide +kernel
theorem dX8_claim_3 : decode cX8_claim 3 = .ok (.invokevirtual 71, 3) := by decide +kernel
theorem dX8_claim_6 : decode cX8_claim 6 = .ok (.invokevirtual 195, 3) := by decide +kernel
theorem dX8_claim_9 : decode cX8_claim 9 = .ok (.ireturn, 1) := by decide +kernel
set_option maxRecDepth 20000 in
theorem ggX8_claimBySlips_X8_workerOf : GoodIn wsX8_claimBySlips wsX8_workerOf := goodIn_ca (goodIn_r _ [7, 8, 9, 10, 56, 57, 58, 59, 60, 61, 62, 63, 64, 65] (by decide +kernel) (by decide +kernel)) (goodIn_sub (fun _ h => List.mem_cons_of_mem _ (List.mem_append_right _ h)) (by decide +kernel))
set_option maxRecDepth 20000 in
theorem gX8_claimBySlips_X8_workerOf : GoodIn wsX8_claimBySlips (wsV RX8 71 RX8 yX8_workerOf wsX8_workerOf) := goodIn_app (goodIn_of _ (by decide +kernel)) ggX8_claimBySlips_X8_workerOf
set_option maxRecDepth 20000 in
theorem ggX8_claimBySlips_X8_dueBetween : GoodIn wsX8_claimBySlips wsX8_dueBetween := goodIn_r _ [14, 15, 16, 17, 18, 19, 20, 21, 22, 23, 24, 25, 26, 27, 28, 29, 30, 31, 32, 6, 33, 34, 35, 36, 37, 38, 39, 40, 41, 66, 67, 68, 69, 70, 71, 72, 73, 74, 75, 76, 77, 78, 56, 57, 58, 59, 60, 61, 62, 63, 64, 65, 79, 80] (by decide +kernel) (by decide +kernel)
set_option maxRecDepth 20000 in
theorem gX8_claimBySlips_X8_dueBetween : GoodIn wsX8_claimBySlips (wsV RX8 134 RX8 yX8_dueBetween wsX8_dueBetween) := goodIn_app (goodIn_of _ (by decide +kernel)) ggX8_claimBySlips_X8_dueBetween
set_option maxRecDepth 20000 in
theorem ggX8_claimBySlips_X7_slipPart : GoodIn wsX8_claimBySlips wsX7_slipPart := goodIn_r _ [45, 46, 47, 48, 49, 50, 51, 52, 53, 54, 55, 66, 67, 68, 69, 70, 71, 72, 73, 81, 82, 83, 84] (by decide +kernel) (by decide +kernel)
set_option maxRecDepth 20000 in
theorem gX8_claimBySlips_X7_slipPart : GoodIn wsX8_claimBySlips (wsV RX8 188 RX7 yX7_slipPart wsX7_slipPart) := goodIn_app (goodIn_of _ (by decide +kernel)) ggX8_claimBySlips_X7_slipPart
theorem dX8_claimBySlips_0 : decode cX8_claimBySlips 0 = .ok (.aload_n 0, 1) := by decide +kernel
theorem dX8_claimBySlips_1 : decode cX8_claimBySlips 1 = .ok (.iload_n 1, 1) := by decide +kernel
theorem dX8_claimBySlips_2 : decode cX8_claimBySlips 2 = .ok (.invokevirtual 71, 3) := by decide +kernel
theorem dX8_claimBySlips_5 : decode cX8_claimBySlips 5 = .ok (.astore_n 2, 1) := by decide +kernel
theorem dX8_claimBySlips_6 : decode cX8_claimBySlips 6 = .ok (.aload_n 0, 1) := by decide +kernel
theorem dX8_claimBySlips_7 : decode cX8_claimBySlips 7 = .ok (.aload_n 2, 1) := by decide +kernel
theorem dX8_claimBySlips_8 : decode cX8_claimBySlips 8 = .ok (.iconst 0, 1) := by decide +kernel
theorem dX8_claimBySlips_9 : decode cX8_claimBySlips 9 = .ok (.aload_n 0, 1) := by decide +kernel
theorem dX8_claimBySlips_10 : decode cX8_claimBySlips 10 = .ok (.getfield 52, 3) := by decide +kernel
theorem dX8_claimBySlips_13 : decode cX8_claimBySlips 13 = .ok (.invokevirtual 134, 3) := by decide +kernel
theorem dX8_claimBySlips_16 : decode cX8_claimBySlips 16 = .ok (.aload_n 2, 1) := by decide +kernel
theorem dX8_claimBySlips_17 : decode cX8_claimBySlips 17 = .ok (.getfield 199, 3) := by decide +kernel
theorem dX8_claimBySlips_20 : decode cX8_claimBySlips 20 = .ok (.iadd, 1) := by decide +kernel
theorem dX8_claimBySlips_21 : decode cX8_claimBySlips 21 = .ok (.istore_n 3, 1) := by decide +kernel
theorem dX8_claimBySlips_22 : decode cX8_claimBySlips 22 = .ok (.iconst 0, 1) := by decide +kernel
theorem dX8_claimBySlips_23 : decode cX8_claimBySlips 23 = .ok (.istore 4, 2) := by decide +kernel
theorem dX8_claimBySlips_25 : decode cX8_claimBySlips 25 = .ok (.iload 4, 2) := by decide +kernel
theorem dX8_claimBySlips_27 : decode cX8_claimBySlips 27 = .ok (.bipush 31, 2) := by decide +kernel
theorem dX8_claimBySlips_29 : decode cX8_claimBySlips 29 = .ok (.if_icmp .ge 19, 3) := by decide +kernel
theorem dX8_claimBySlips_32 : decode cX8_claimBySlips 32 = .ok (.iload_n 3, 1) := by decide +kernel
theorem dX8_claimBySlips_33 : decode cX8_claimBySlips 33 = .ok (.aload_n 2, 1) := by decide +kernel
theorem dX8_claimBySlips_34 : decode cX8_claimBySlips 34 = .ok (.iload 4, 2) := by decide +kernel
theorem dX8_claimBySlips_36 : decode cX8_claimBySlips 36 = .ok (.iconst 0, 1) := by decide +kernel
theorem dX8_claimBySlips_37 : decode cX8_claimBySlips 37 = .ok (.invokevirtual 188, 3) := by decide +kernel
theorem dX8_claimBySlips_40 : decode cX8_claimBySlips 40 = .ok (.isub, 1) := by decide +kernel
theorem dX8_claimBySlips_41 : decode cX8_claimBySlips 41 = .ok (.istore_n 3, 1) := by decide +kernel
theorem dX8_claimBySlips_42 : decode cX8_claimBySlips 42 = .ok (.iinc 4 1, 3) := by decide +kernel
theorem dX8_claimBySlips_45 : decode cX8_claimBySlips 45 = .ok (.goto (-20), 3) := by decide +kernel
theorem dX8_claimBySlips_48 : decode cX8_claimBySlips 48 = .ok (.iload_n 3, 1) := by decide +kernel
theorem dX8_claimBySlips_49 : decode cX8_claimBySlips 49 = .ok (.ireturn, 1) := by decide +kernel
theorem dX8_workerOf_0 : decode cX8_workerOf 0 = .ok (.iload_n 1, 1) := by decide +kernel
theorem dX8_workerOf_1 : decode cX8_workerOf 1 = .ok (.ifCond .lt 21, 3) := by decide +kernel
theorem dX8_workerOf_4 : decode cX8_workerOf 4 = .ok (.iload_n 1, 1) := by decide +kernel
theorem dX8_workerOf_5 : decode cX8_workerOf 5 = .ok (.aload_n 0, 1) := by decide +kernel
theorem dX8_workerOf_6 : decode cX8_workerOf 6 = .ok (.getfield 23, 3) := by decide +kernel
theorem dX8_workerOf_9 : decode cX8_workerOf 9 = .ok (.arraylength, 1) := by decide +kernel
theorem dX8_workerOf_10 : decode cX8_workerOf 10 = .ok (.if_icmp .ge 12, 3) := by decide +kernel
theorem dX8_workerOf_13 : decode cX8_workerOf 13 = .ok (.aload_n 0, 1) := by decide +kernel
theorem dX8_workerOf_14 : decode cX8_workerOf 14 = .ok (.getfield 23, 3) := by decide +kernel
theorem dX8_workerOf_17 : decode cX8_workerOf 17 = .ok (.iload_n 1, 1) := by decide +kernel
theorem dX8_workerOf_18 : decode cX8_workerOf 18 = .ok (.aaload, 1) := by decide +kernel
theorem dX8_workerOf_19 : decode cX8_workerOf 19 = .ok (.goto 4, 3) := by decide +kernel
theorem dX8_workerOf_22 : decode cX8_workerOf 22 = .ok (.aconst_null, 1) := by decide +kernel
theorem dX8_workerOf_23 : decode cX8_workerOf 23 = .ok (.astore_n 2, 1) := by decide +kernel
theorem dX8_workerOf_24 : decode cX8_workerOf 24 = .ok (.aload_n 2, 1) := by decide +kernel
theorem dX8_workerOf_25 : decode cX8_workerOf 25 = .ok (.ifnonnull 13, 3) := by decide +kernel
theorem dX8_workerOf_28 : decode cX8_workerOf 28 = .ok (.new 125, 3) := by decide +kernel
theorem dX8_workerOf_31 : decode cX8_workerOf 31 = .ok (.dup, 1) := by decide +kernel
theorem dX8_workerOf_32 : decode cX8_workerOf 32 = .ok (.ldc 202, 2) := by decide +kernel
theorem dX8_workerOf_34 : decode cX8_workerOf 34 = .ok (.invokespecial 129, 3) := by decide +kernel
theorem dX8_workerOf_37 : decode cX8_workerOf 37 = .ok (.athrow, 1) := by decide +kernel
theorem dX8_workerOf_38 : decode cX8_workerOf 38 = .ok (.aload_n 2, 1) := by decide +kernel
theorem dX8_workerOf_39 : decode cX8_workerOf 39 = .ok (.areturn, 1) := by decide +kernel
theorem dX8_potOf_0 : decode cX8_potOf 0 = .ok (.iload_n 1, 1) := by decide +kernel
theorem dX8_potOf_1 : decode cX8_potOf 1 = .ok (.ifCond .lt 21, 3) := by decide +kernel
theorem dX8_potOf_4 : decode cX8_potOf 4 = .ok (.iload_n 1, 1) := by decide +kernel
theorem dX8_potOf_5 : decode cX8_potOf 5 = .ok (.aload_n 0, 1) := by decide +kernel
theorem dX8_potOf_6 : decode cX8_potOf 6 = .ok (.getfield 11, 3) := by decide +kernel
theorem dX8_potOf_9 : decode cX8_potOf 9 = .ok (.arraylength, 1) := by decide +kernel
theorem dX8_potOf_10 : decode cX8_potOf 10 = .ok (.if_icmp .ge 12, 3) := by decide +kernel
theorem dX8_potOf_13 : decode cX8_potOf 13 = .ok (.aload_n 0, 1) := by decide +kernel
theorem dX8_potOf_14 : decode cX8_potOf 14 = .ok (.getfield 11, 3) := by decide +kernel
theorem dX8_potOf_17 : decode cX8_potOf 17 = .ok (.iload_n 1, 1) := by decide +kernel
theorem dX8_potOf_18 : decode cX8_potOf 18 = .ok (.aaload, 1) := by decide +kernel
theorem dX8_potOf_19 : decode cX8_potOf 19 = .ok (.goto 4, 3) := by decide +kernel
theorem dX8_potOf_22 : decode cX8_potOf 22 = .ok (.aconst_null, 1) := by decide +kernel
theorem dX8_potOf_23 : decode cX8_potOf 23 = .ok (.astore_n 2, 1) := by decide +kernel
theorem dX8_potOf_24 : decode cX8_potOf 24 = .ok (.aload_n 2, 1) := by decide +kernel
theorem dX8_potOf_25 : decode cX8_potOf 25 = .ok (.ifnonnull 13, 3) := by decide +kernel
theorem dX8_potOf_28 : decode cX8_potOf 28 = .ok (.new 125, 3) := by decide +kernel
theorem dX8_potOf_31 : decode cX8_potOf 31 = .ok (.dup, 1) := by decide +kernel
theorem dX8_potOf_32 : decode cX8_potOf 32 = .ok (.ldc 204, 2) := by decide +kernel
theorem dX8_potOf_34 : decode cX8_potOf 34 = .ok (.invokespecial 129, 3) := by decide +kernel
theorem dX8_potOf_37 : decode cX8_potOf 37 = .ok (.athrow, 1) := by decide +kernel
theorem dX8_potOf_38 : decode cX8_potOf 38 = .ok (.aload_n 2, 1) := by decide +kernel
theorem dX8_potOf_39 : decode cX8_potOf 39 = .ok (.areturn, 1) := by decide +kernel
set_option maxRecDepth 20000 in
theorem ggX8_ratesOf_X8_ratesOrNull : GoodIn wsX8_ratesOf wsX8_ratesOrNull := goodIn_r _ [7, 8, 9, 10, 11, 12, 13, 14, 15, 16, 17, 18] (by decide +kernel) (by decide +kernel)
set_option maxRecDepth 20000 in
theorem gX8_ratesOf_X8_ratesOrNull : GoodIn wsX8_ratesOf (wsV RX8 206 RX8 yX8_ratesOrNull wsX8_ratesOrNull) := goodIn_app (goodIn_of _ (by decide +kernel)) ggX8_ratesOf_X8_ratesOrNull
theorem dX8_ratesOf_0 : decode cX8_ratesOf 0 = .ok (.aload_n 0, 1) := by decide +kernel
theorem dX8_ratesOf_1 : decode cX8_ratesOf 1 = .ok (.iload_n 1, 1) := by decide +kernel
theorem dX8_ratesOf_2 : decode cX8_ratesOf 2 = .ok (.invokevirtual 206, 3) := by decide +kernel
theorem dX8_ratesOf_5 : decode cX8_ratesOf 5 = .ok (.astore_n 2, 1) := by decide +kernel
theorem dX8_ratesOf_6 : decode cX8_ratesOf 6 = .ok (.aload_n 2, 1) := by decide +kernel
theorem dX8_ratesOf_7 : decode cX8_ratesOf 7 = .ok (.ifnonnull 13, 3) := by decide +kernel
theorem dX8_ratesOf_10 : decode cX8_ratesOf 10 = .ok (.new 125, 3) := by decide +kernel
theorem dX8_ratesOf_13 : decode cX8_ratesOf 13 = .ok (.dup, 1) := by decide +kernel
theorem dX8_ratesOf_14 : decode cX8_ratesOf 14 = .ok (.ldc 209, 2) := by decide +kernel
theorem dX8_ratesOf_16 : decode cX8_ratesOf 16 = .ok (.invokespecial 129, 3) := by decide +kernel
theorem dX8_ratesOf_19 : decode cX8_ratesOf 19 = .ok (.athrow, 1) := by decide +kernel
theorem dX8_ratesOf_20 : decode cX8_ratesOf 20 = .ok (.aload_n 2, 1) := by decide +kernel
theorem dX8_ratesOf_21 : decode cX8_ratesOf 21 = .ok (.areturn, 1) := by decide +kernel
theorem dX8_ratesOrNull_0 : decode cX8_ratesOrNull 0 = .ok (.iload_n 1, 1) := by decide +kernel
theorem dX8_ratesOrNull_1 : decode cX8_ratesOrNull 1 = .ok (.ifCond .lt 21, 3) := by decide +kernel
theorem dX8_ratesOrNull_4 : decode cX8_ratesOrNull 4 = .ok (.iload_n 1, 1) := by decide +kernel
theorem dX8_ratesOrNull_5 : decode cX8_ratesOrNull 5 = .ok (.aload_n 0, 1) := by decide +kernel
theorem dX8_ratesOrNull_6 : decode cX8_ratesOrNull 6 = .ok (.getfield 17, 3) := by decide +kernel
theorem dX8_ratesOrNull_9 : decode cX8_ratesOrNull 9 = .ok (.arraylength, 1) := by decide +kernel
theorem dX8_ratesOrNull_10 : decode cX8_ratesOrNull 10 = .ok (.if_icmp .ge 12, 3) := by decide +kernel
theorem dX8_ratesOrNull_13 : decode cX8_ratesOrNull 13 = .ok (.aload_n 0, 1) := by decide +kernel
theorem dX8_ratesOrNull_14 : decode cX8_ratesOrNull 14 = .ok (.getfield 17, 3) := by decide +kernel
theorem dX8_ratesOrNull_17 : decode cX8_ratesOrNull 17 = .ok (.iload_n 1, 1) := by decide +kernel
theorem dX8_ratesOrNull_18 : decode cX8_ratesOrNull 18 = .ok (.aaload, 1) := by decide +kernel
theorem dX8_ratesOrNull_19 : decode cX8_ratesOrNull 19 = .ok (.goto 4, 3) := by decide +kernel
theorem dX8_ratesOrNull_22 : decode cX8_ratesOrNull 22 = .ok (.aconst_null, 1) := by decide +kernel
theorem dX8_ratesOrNull_23 : decode cX8_ratesOrNull 23 = .ok (.areturn, 1) := by decide +kernel
set_option maxRecDepth 20000 in
theorem ggX8_checkWeek_X8_checkRange : GoodIn wsX8_checkWeek wsX8_checkRange := goodIn_ca (goodIn_r _ [4, 5, 6] (by decide +kernel) (by decide +kernel)) (goodIn_sub (fun _ h => List.mem_cons_of_mem _ (List.mem_append_right _ h)) (by decide +kernel))
set_option maxRecDepth 20000 in
theorem gX8_checkWeek_X8_checkRange : GoodIn wsX8_checkWeek (va_wsS RX8 97 yX8_checkRange wsX8_checkRange) := goodIn_app (goodIn_of _ (by decide +kernel)) ggX8_checkWeek_X8_checkRange
theorem dX8_checkWeek_0 : decode cX8_checkWeek 0 = .ok (.iload_n 0, 1) := by decide +kernel
theorem dX8_checkWeek_1 : decode cX8_checkWeek 1 = .ok (.iconst 0, 1) := by decide +kernel
theorem dX8_checkWeek_2 : decode cX8_checkWeek 2 = .ok (.bipush 30, 2) := by decide +kernel
theorem dX8_checkWeek_4 : decode cX8_checkWeek 4 = .ok (.invokestatic 97, 3) := by decide +kernel
theorem dX8_checkWeek_7 : decode cX8_checkWeek 7 = .ok (.return_, 1) := by decide +kernel
set_option maxRecDepth 20000 in
theorem ggX8_checkHours_X8_checkRange : GoodIn wsX8_checkHours wsX8_checkRange := goodIn_ca (goodIn_r _ [4, 5, 6] (by decide +kernel) (by decide +kernel)) (goodIn_sub (fun _ h => List.mem_cons_of_mem _ (List.mem_append_right _ h)) (by decide +kernel))
set_option maxRecDepth 20000 in
theorem gX8_checkHours_X8_checkRange : GoodIn wsX8_checkHours (va_wsS RX8 97 yX8_checkRange wsX8_checkRange) := goodIn_app (goodIn_of _ (by decide +kernel)) ggX8_checkHours_X8_checkRange
theorem dX8_checkHours_0 : decode cX8_checkHours 0 = .ok (.iload_n 0, 1) := by decide +kernel
theorem dX8_checkHours_1 : decode cX8_checkHours 1 = .ok (.iconst 0, 1) := by decide +kernel
theorem dX8_checkHours_2 : decode cX8_checkHours 2 = .ok (.bipush 100, 2) := by decide +kernel
theorem dX8_checkHours_4 : decode cX8_checkHours 4 = .ok (.invokestatic 97, 3) := by decide +kernel
theorem dX8_checkHours_7 : decode cX8_checkHours 7 = .ok (.iload_n 1, 1) := by decide +kernel
theorem dX8_checkHours_8 : decode cX8_checkHours 8 = .ok (.iconst 0, 1) := by decide +kernel
theorem dX8_checkHours_9 : decode cX8_checkHours 9 = .ok (.bipush 100, 2) := by decide +kernel
theorem dX8_checkHours_11 : decode cX8_checkHours 11 = .ok (.invokestatic 97, 3) := by decide +kernel
theorem dX8_checkHours_14 : decode cX8_checkHours 14 = .ok (.return_, 1) := by decide +kernel
theorem dX8_checkRange_0 : decode cX8_checkRange 0 = .ok (.iload_n 0, 1) := by decide +kernel
theorem dX8_checkRange_1 : decode cX8_checkRange 1 = .ok (.iload_n 1, 1) := by decide +kernel
theorem dX8_checkRange_2 : decode cX8_checkRange 2 = .ok (.if_icmp .lt 8, 3) := by decide +kernel
theorem dX8_checkRange_5 : decode cX8_checkRange 5 = .ok (.iload_n 0, 1) := by decide +kernel
theorem dX8_checkRange_6 : decode cX8_checkRange 6 = .ok (.iload_n 2, 1) := by decide +kernel
theorem dX8_checkRange_7 : decode cX8_checkRange 7 = .ok (.if_icmp .le 13, 3) := by decide +kernel
theorem dX8_checkRange_10 : decode cX8_checkRange 10 = .ok (.new 211, 3) := by decide +kernel
theorem dX8_checkRange_13 : decode cX8_checkRange 13 = .ok (.dup, 1) := by decide +kernel
theorem dX8_checkRange_14 : decode cX8_checkRange 14 = .ok (.ldc 213, 2) := by decide +kernel
theorem dX8_checkRange_16 : decode cX8_checkRange 16 = .ok (.invokespecial 215, 3) := by decide +kernel
theorem dX8_checkRange_19 : decode cX8_checkRange 19 = .ok (.athrow, 1) := by decide +kernel
theorem dX8_checkRange_20 : decode cX8_checkRange 20 = .ok (.return_, 1) := by decide +kernel
set_option maxRecDepth 20000 in
theorem ggX8_dueBetween_X7_sheet : GoodIn wsX8_dueBetween wsX7_sheet := goodIn_r _ [8, 9, 29, 30, 31, 32, 33, 34, 35, 36] (by decide +kernel) (by decide +kernel)
set_option maxRecDepth 20000 in
theorem gX8_dueBetween_X7_sheet : GoodIn wsX8_dueBetween (wsV RX8 110 RX7 yX7_sheet wsX7_sheet) := goodIn_app (goodIn_of _ (by decide +kernel)) ggX8_dueBetween_X7_sheet
set_option maxRecDepth 20000 in
theorem ggX8_dueBetween_X3_inWeek : GoodIn wsX8_dueBetween wsX3_inWeek := goodIn_r _ [14, 15, 40, 41] (by decide +kernel) (by decide +kernel)
set_option maxRecDepth 20000 in
theorem gX8_dueBetween_X3_inWeek : GoodIn wsX8_dueBetween (wsV RX8 87 RX3 yX3_inWeek wsX3_inWeek) := goodIn_app (goodIn_of _ (by decide +kernel)) ggX8_dueBetween_X3_inWeek
set_option maxRecDepth 20000 in
theorem ggX8_dueBetween_X8_ratesOrNull : GoodIn wsX8_dueBetween wsX8_ratesOrNull := goodIn_r _ [20, 21, 42, 43, 44, 45, 46, 47, 48, 49, 50, 51] (by decide +kernel) (by decide +kernel)
set_option maxRecDepth 20000 in
theorem gX8_dueBetween_X8_ratesOrNull : GoodIn wsX8_dueBetween (wsV RX8 206 RX8 yX8_ratesOrNull wsX8_ratesOrNull) := goodIn_app (goodIn_of _ (by decide +kernel)) ggX8_dueBetween_X8_ratesOrNull
set_option maxRecDepth 20000 in
theorem ggX8_dueBetween_X8_payFor : GoodIn wsX8_dueBetween wsX8_payFor := goodIn_r _ [24, 25, 26, 2, 27, 28, 10, 11, 12, 13, 14, 15, 37, 38, 39, 52, 53, 40, 41] (by decide +kernel) (by decide +kernel)
set_option maxRecDepth 20000 in
theorem gX8_dueBetween_X8_payFor : GoodIn wsX8_dueBetween (va_wsS RX8 219 yX8_payFor wsX8_payFor) := goodIn_app (goodIn_of _ (by decide +kernel)) ggX8_dueBetween_X8_payFor
theorem dX8_dueBetween_0 : decode cX8_dueBetween 0 = .ok (.iconst 0, 1) := by decide +kernel
theorem dX8_dueBetween_1 : decode cX8_dueBetween 1 = .ok (.istore 4, 2) := by decide +kernel
theorem dX8_dueBetween_3 : decode cX8_dueBetween 3 = .ok (.iconst 0, 1) := by decide +kernel
theorem dX8_dueBetween_4 : decode cX8_dueBetween 4 = .ok (.istore 5, 2) := by decide +kernel
theorem dX8_dueBetween_6 : decode cX8_dueBetween 6 = .ok (.iload 5, 2) := by decide +kernel
theorem dX8_dueBetween_8 : decode cX8_dueBetween 8 = .ok (.aload_n 1, 1) := by decide +kernel
theorem dX8_dueBetween_9 : decode cX8_dueBetween 9 = .ok (.getfield 122, 3) := by decide +kernel
theorem dX8_dueBetween_12 : decode cX8_dueBetween 12 = .ok (.if_icmp .ge 66, 3) := by decide +kernel
theorem dX8_dueBetween_15 : decode cX8_dueBetween 15 = .ok (.aload_n 1, 1) := by decide +kernel
theorem dX8_dueBetween_16 : decode cX8_dueBetween 16 = .ok (.iload 5, 2) := by decide +kernel
theorem dX8_dueBetween_18 : decode cX8_dueBetween 18 = .ok (.invokevirtual 110, 3) := by decide +kernel
theorem dX8_dueBetween_21 : decode cX8_dueBetween 21 = .ok (.astore 6, 2) := by decide +kernel
theorem dX8_dueBetween_23 : decode cX8_dueBetween 23 = .ok (.aload 6, 2) := by decide +kernel
theorem dX8_dueBetween_25 : decode cX8_dueBetween 25 = .ok (.ifnull 47, 3) := by decide +kernel
theorem dX8_dueBetween_28 : decode cX8_dueBetween 28 = .ok (.aload 6, 2) := by decide +kernel
theorem dX8_dueBetween_30 : decode cX8_dueBetween 30 = .ok (.getfield 216, 3) := by decide +kernel
theorem dX8_dueBetween_33 : decode cX8_dueBetween 33 = .ok (.iload_n 2, 1) := by decide +kernel
theorem dX8_dueBetween_34 : decode cX8_dueBetween 34 = .ok (.if_icmp .lt 38, 3) := by decide +kernel
theorem dX8_dueBetween_37 : decode cX8_dueBetween 37 = .ok (.aload 6, 2) := by decide +kernel
theorem dX8_dueBetween_39 : decode cX8_dueBetween 39 = .ok (.getfield 216, 3) := by decide +kernel
theorem dX8_dueBetween_42 : decode cX8_dueBetween 42 = .ok (.iload_n 3, 1) := by decide +kernel
theorem dX8_dueBetween_43 : decode cX8_dueBetween 43 = .ok (.if_icmp .gt 29, 3) := by decide +kernel
theorem dX8_dueBetween_46 : decode cX8_dueBetween 46 = .ok (.iload 4, 2) := by decide +kernel
theorem dX8_dueBetween_48 : decode cX8_dueBetween 48 = .ok (.aload 6, 2) := by decide +kernel
theorem dX8_dueBetween_50 : decode cX8_dueBetween 50 = .ok (.aload_n 0, 1) := by decide +kernel
theorem dX8_dueBetween_51 : decode cX8_dueBetween 51 = .ok (.aload_n 1, 1) := by decide +kernel
theorem dX8_dueBetween_52 : decode cX8_dueBetween 52 = .ok (.getfield 83, 3) := by decide +kernel
theorem dX8_dueBetween_55 : decode cX8_dueBetween 55 = .ok (.aload 6, 2) := by decide +kernel
theorem dX8_dueBetween_57 : decode cX8_dueBetween 57 = .ok (.getfield 216, 3) := by decide +kernel
theorem dX8_dueBetween_60 : decode cX8_dueBetween 60 = .ok (.invokevirtual 87, 3) := by decide +kernel
theorem dX8_dueBetween_63 : decode cX8_dueBetween 63 = .ok (.invokevirtual 206, 3) := by decide +kernel
theorem dX8_dueBetween_66 : decode cX8_dueBetween 66 = .ok (.invokestatic 219, 3) := by decide +kernel
theorem dX8_dueBetween_69 : decode cX8_dueBetween 69 = .ok (.iadd, 1) := by decide +kernel
theorem dX8_dueBetween_70 : decode cX8_dueBetween 70 = .ok (.istore 4, 2) := by decide +kernel
theorem dX8_dueBetween_72 : decode cX8_dueBetween 72 = .ok (.iinc 5 1, 3) := by decide +kernel
theorem dX8_dueBetween_75 : decode cX8_dueBetween 75 = .ok (.goto (-69), 3) := by decide +kernel
theorem dX8_dueBetween_78 : decode cX8_dueBetween 78 = .ok (.iload 4, 2) := by decide +kernel
theorem dX8_dueBetween_80 : decode cX8_dueBetween 80 = .ok (.ireturn, 1) := by decide +kernel
set_option maxRecDepth 20000 in
theorem ggX8_payFor_X3_inWeek : GoodIn wsX8_payFor wsX3_inWeek := goodIn_r _ [10, 11, 17, 18] (by decide +kernel) (by decide +kernel)
set_option maxRecDepth 20000 in
theorem gX8_payFor_X3_inWeek : GoodIn wsX8_payFor (wsV RX8 87 RX3 yX3_inWeek wsX3_inWeek) := goodIn_app (goodIn_of _ (by decide +kernel)) ggX8_payFor_X3_inWeek
theorem dX8_payFor_0 : decode cX8_payFor 0 = .ok (.aload_n 1, 1) := by decide +kernel
theorem dX8_payFor_1 : decode cX8_payFor 1 = .ok (.ifnonnull 5, 3) := by decide +kernel
theorem dX8_payFor_4 : decode cX8_payFor 4 = .ok (.iconst 0, 1) := by decide +kernel
theorem dX8_payFor_5 : decode cX8_payFor 5 = .ok (.ireturn, 1) := by decide +kernel
theorem dX8_payFor_6 : decode cX8_payFor 6 = .ok (.aload_n 0, 1) := by decide +kernel
theorem dX8_payFor_7 : decode cX8_payFor 7 = .ok (.getfield 130, 3) := by decide +kernel
theorem dX8_payFor_10 : decode cX8_payFor 10 = .ok (.aload_n 1, 1) := by decide +kernel
theorem dX8_payFor_11 : decode cX8_payFor 11 = .ok (.getfield 101, 3) := by decide +kernel
theorem dX8_payFor_14 : decode cX8_payFor 14 = .ok (.aload_n 0, 1) := by decide +kernel
theorem dX8_payFor_15 : decode cX8_payFor 15 = .ok (.getfield 216, 3) := by decide +kernel
theorem dX8_payFor_18 : decode cX8_payFor 18 = .ok (.invokevirtual 87, 3) := by decide +kernel
theorem dX8_payFor_21 : decode cX8_payFor 21 = .ok (.imul, 1) := by decide +kernel
theorem dX8_payFor_22 : decode cX8_payFor 22 = .ok (.aload_n 0, 1) := by decide +kernel
theorem dX8_payFor_23 : decode cX8_payFor 23 = .ok (.getfield 132, 3) := by decide +kernel
theorem dX8_payFor_26 : decode cX8_payFor 26 = .ok (.aload_n 1, 1) := by decide +kernel
theorem dX8_payFor_27 : decode cX8_payFor 27 = .ok (.getfield 104, 3) := by decide +kernel
theorem dX8_payFor_30 : decode cX8_payFor 30 = .ok (.aload_n 0, 1) := by decide +kernel
theorem dX8_payFor_31 : decode cX8_payFor 31 = .ok (.getfield 216, 3) := by decide +kernel
theorem dX8_payFor_34 : decode cX8_payFor 34 = .ok (.invokevirtual 87, 3) := by decide +kernel
theorem dX8_payFor_37 : decode cX8_payFor 37 = .ok (.imul, 1) := by decide +kernel
theorem dX8_payFor_38 : decode cX8_payFor 38 = .ok (.iadd, 1) := by decide +kernel
theorem dX8_payFor_39 : decode cX8_payFor 39 = .ok (.ireturn, 1) := by decide +kernel
set_option maxRecDepth 20000 in
theorem ggX8_claimOf_X8_dueBetween : GoodIn wsX8_claimOf wsX8_dueBetween := goodIn_r _ [7, 8, 9, 10, 11, 12, 13, 14, 15, 16, 17, 18, 19, 20, 21, 22, 23, 24, 25, 6, 26, 27, 28, 29, 30, 31, 32, 33, 34, 45, 46, 47, 48, 49, 50, 51, 52, 53, 54, 55, 56, 57, 35, 36, 37, 38, 39, 40, 41, 42, 43, 44, 58, 59] (by decide +kernel) (by decide +kernel)
set_option maxRecDepth 20000 in
theorem gX8_claimOf_X8_dueBetween : GoodIn wsX8_claimOf (wsV RX8 134 RX8 yX8_dueBetween wsX8_dueBetween) := goodIn_app (goodIn_of _ (by decide +kernel)) ggX8_claimOf_X8_dueBetween
theorem dX8_claimOf_0 : decode cX8_claimOf 0 = .ok (.aload_n 0, 1) := by decide +kernel
theorem dX8_claimOf_1 : decode cX8_claimOf 1 = .ok (.aload_n 1, 1) := by decide +kernel
theorem dX8_claimOf_2 : decode cX8_claimOf 2 = .ok (.iconst 0, 1) := by decide +kernel
theorem dX8_claimOf_3 : decode cX8_claimOf 3 = .ok (.aload_n 0, 1) := by decide +kernel
theorem dX8_claimOf_4 : decode cX8_claimOf 4 = .ok (.getfield 52, 3) := by decide +kernel
theorem dX8_claimOf_7 : decode cX8_claimOf 7 = .ok (.invokevirtual 134, 3) := by decide +kernel
theorem dX8_claimOf_10 : decode cX8_claimOf 10 = .ok (.aload_n 1, 1) := by decide +kernel
theorem dX8_claimOf_11 : decode cX8_claimOf 11 = .ok (.getfield 223, 3) := by decide +kernel
theorem dX8_claimOf_14 : decode cX8_claimOf 14 = .ok (.isub, 1) := by decide +kernel
theorem dX8_claimOf_15 : decode cX8_claimOf 15 = .ok (.ireturn, 1) := by decide +kernel
set_option maxRecDepth 20000 in
theorem ggX8_settle_X8_claimOf : GoodIn wsX8_settle wsX8_claimOf := goodIn_r _ [7, 8, 9, 10, 11, 12, 6, 13, 14, 15, 16, 17, 18, 19, 20, 21, 22, 23, 24, 25, 26, 27, 28, 29, 30, 31, 32, 33, 34, 35, 36, 37, 38, 39, 40, 104, 105, 106, 107, 108, 109, 110, 111, 112, 113, 94, 95, 96, 97, 98, 99, 100, 101, 114, 115, 116, 117, 118, 119, 120] (by decide +kernel) (by decide +kernel)
set_option maxRecDepth 20000 in
theorem gX8_settle_X8_claimOf : GoodIn wsX8_settle (wsV RX8 195 RX8 yX8_claimOf wsX8_claimOf) := goodIn_app (goodIn_of _ (by decide +kernel)) ggX8_settle_X8_claimOf
set_option maxRecDepth 20000 in
theorem ggX8_settle_X7_owe : GoodIn wsX8_settle wsX7_owe := goodIn_r _ [44, 45, 46, 47, 94, 95, 96, 97, 98, 99, 100, 101] (by decide +kernel) (by decide +kernel)
set_option maxRecDepth 20000 in
theorem gX8_settle_X7_owe : GoodIn wsX8_settle (wsV RX8 226 RX7 yX7_owe wsX7_owe) := goodIn_app (goodIn_of _ (by decide +kernel)) ggX8_settle_X7_owe
set_option maxRecDepth 20000 in
theorem ggX8_settle_X8_pay : GoodIn wsX8_settle wsX8_pay := goodIn_r _ [51, 1, 2, 9, 52, 53, 54, 55, 56, 57, 8, 58, 59, 60, 61, 62, 63, 6, 64, 65, 66, 67, 68, 69, 70, 71, 72, 73, 74, 75, 76, 77, 78, 79, 80, 81, 82, 83, 84, 85, 86, 87, 88, 89, 90, 91, 20, 92, 93, 94, 95, 96, 97, 98, 99, 100, 101, 102, 103, 104, 105, 106, 107, 108, 109, 110, 111, 112, 113, 121, 122, 123, 124, 125, 126, 127, 128] (by decide +kernel) (by decide +kernel)
set_option maxRecDepth 20000 in
theorem gX8_settle_X8_pay : GoodIn wsX8_settle (wsV RX8 230 RX8 yX8_pay wsX8_pay) := goodIn_app (goodIn_of _ (by decide +kernel)) ggX8_settle_X8_pay
theorem dX8_settle_0 : decode cX8_settle 0 = .ok (.aload_n 0, 1) := by decide +kernel
theorem dX8_settle_1 : decode cX8_settle 1 = .ok (.aload_n 1, 1) := by decide +kernel
theorem dX8_settle_2 : decode cX8_settle 2 = .ok (.invokevirtual 195, 3) := by decide +kernel
theorem dX8_settle_5 : decode cX8_settle 5 = .ok (.istore_n 2, 1) := by decide +kernel
theorem dX8_settle_6 : decode cX8_settle 6 = .ok (.iload_n 2, 1) := by decide +kernel
theorem dX8_settle_7 : decode cX8_settle 7 = .ok (.ifCond .ge 11, 3) := by decide +kernel
theorem dX8_settle_10 : decode cX8_settle 10 = .ok (.aload_n 1, 1) := by decide +kernel
theorem dX8_settle_11 : decode cX8_settle 11 = .ok (.iload_n 2, 1) := by decide +kernel
theorem dX8_settle_12 : decode cX8_settle 12 = .ok (.ineg, 1) := by decide +kernel
theorem dX8_settle_13 : decode cX8_settle 13 = .ok (.invokevirtual 226, 3) := by decide +kernel
theorem dX8_settle_16 : decode cX8_settle 16 = .ok (.iconst 0, 1) := by decide +kernel
theorem dX8_settle_17 : decode cX8_settle 17 = .ok (.ireturn, 1) := by decide +kernel
theorem dX8_settle_18 : decode cX8_settle 18 = .ok (.iload_n 2, 1) := by decide +kernel
theorem dX8_settle_19 : decode cX8_settle 19 = .ok (.ifCond .eq 14, 3) := by decide +kernel
theorem dX8_settle_22 : decode cX8_settle 22 = .ok (.aload_n 1, 1) := by decide +kernel
theorem dX8_settle_23 : decode cX8_settle 23 = .ok (.getfield 229, 3) := by decide +kernel
theorem dX8_settle_26 : decode cX8_settle 26 = .ok (.getfield 179, 3) := by decide +kernel
theorem dX8_settle_29 : decode cX8_settle 29 = .ok (.iload_n 2, 1) := by decide +kernel
theorem dX8_settle_30 : decode cX8_settle 30 = .ok (.if_icmp .ge 5, 3) := by decide +kernel
theorem dX8_settle_33 : decode cX8_settle 33 = .ok (.iconst 0, 1) := by decide +kernel
theorem dX8_settle_34 : decode cX8_settle 34 = .ok (.ireturn, 1) := by decide +kernel
theorem dX8_settle_35 : decode cX8_settle 35 = .ok (.aload_n 0, 1) := by decide +kernel
theorem dX8_settle_36 : decode cX8_settle 36 = .ok (.aload_n 1, 1) := by decide +kernel
theorem dX8_settle_37 : decode cX8_settle 37 = .ok (.iload_n 2, 1) := by decide +kernel
theorem dX8_settle_38 : decode cX8_settle 38 = .ok (.invokevirtual 230, 3) := by decide +kernel
theorem dX8_settle_41 : decode cX8_settle 41 = .ok (.iconst 1, 1) := by decide +kernel
theorem dX8_settle_42 : decode cX8_settle 42 = .ok (.ireturn, 1) := by decide +kernel
set_option maxRecDepth 20000 in
theorem ggX8_pay_X8_garnish : GoodIn wsX8_pay wsX8_garnish := goodIn_r _ [18, 19, 20, 21, 22, 23, 24, 25, 26, 27, 28, 29, 6, 7, 8, 30, 31, 32, 59, 60, 61, 62, 63, 64, 65, 66, 67, 68, 73, 74, 75, 76] (by decide +kernel) (by decide +kernel)
set_option maxRecDepth 20000 in
theorem gX8_pay_X8_garnish : GoodIn wsX8_pay (wsV RX8 239 RX8 yX8_garnish wsX8_garnish) := goodIn_app (goodIn_of _ (by decide +kernel)) ggX8_pay_X8_garnish
set_option maxRecDepth 20000 in
theorem ggX8_pay_X5_init : GoodIn wsX8_pay wsX5_init := goodIn_r _ [35, 36, 37, 38, 39, 40, 41, 42, 69, 70, 71, 72] (by decide +kernel) (by decide +kernel)
set_option maxRecDepth 20000 in
theorem gX8_pay_X5_init : GoodIn wsX8_pay (wsX5_init) := ggX8_pay_X5_init
set_option maxRecDepth 20000 in
theorem ggX8_pay_X7_keepSlip : GoodIn wsX8_pay wsX7_keepSlip := goodIn_r _ [47, 48, 49, 50, 51, 52, 53, 54, 55, 56] (by decide +kernel) (by decide +kernel)
set_option maxRecDepth 20000 in
theorem gX8_pay_X7_keepSlip : GoodIn wsX8_pay (wsV RX8 248 RX7 yX7_keepSlip wsX7_keepSlip) := goodIn_app (goodIn_of _ (by decide +kernel)) ggX8_pay_X7_keepSlip
theorem dX8_pay_0 : decode cX8_pay 0 = .ok (.aload_n 1, 1) := by decide +kernel
theorem dX8_pay_1 : decode cX8_pay 1 = .ok (.getfield 229, 3) := by decide +kernel
theorem dX8_pay_4 : decode cX8_pay 4 = .ok (.dup, 1) := by decide +kernel
theorem dX8_pay_5 : decode cX8_pay 5 = .ok (.getfield 179, 3) := by decide +kernel
theorem dX8_pay_8 : decode cX8_pay 8 = .ok (.iload_n 2, 1) := by decide +kernel
theorem dX8_pay_9 : decode cX8_pay 9 = .ok (.isub, 1) := by decide +kernel
theorem dX8_pay_10 : decode cX8_pay 10 = .ok (.putfield 179, 3) := by decide +kernel
theorem dX8_pay_13 : decode cX8_pay 13 = .ok (.aload_n 1, 1) := by decide +kernel
theorem dX8_pay_14 : decode cX8_pay 14 = .ok (.dup, 1) := by decide +kernel
theorem dX8_pay_15 : decode cX8_pay 15 = .ok (.getfield 223, 3) := by decide +kernel
theorem dX8_pay_18 : decode cX8_pay 18 = .ok (.iload_n 2, 1) := by decide +kernel
theorem dX8_pay_19 : decode cX8_pay 19 = .ok (.iadd, 1) := by decide +kernel
theorem dX8_pay_20 : decode cX8_pay 20 = .ok (.putfield 223, 3) := by decide +kernel
theorem dX8_pay_23 : decode cX8_pay 23 = .ok (.aload_n 1, 1) := by decide +kernel
theorem dX8_pay_24 : decode cX8_pay 24 = .ok (.getfield 192, 3) := by decide +kernel
theorem dX8_pay_27 : decode cX8_pay 27 = .ok (.iload_n 2, 1) := by decide +kernel
theorem dX8_pay_28 : decode cX8_pay 28 = .ok (.bipush 10, 2) := by decide +kernel
theorem dX8_pay_30 : decode cX8_pay 30 = .ok (.idiv, 1) := by decide +kernel
theorem dX8_pay_31 : decode cX8_pay 31 = .ok (.invokestatic 234, 3) := by decide +kernel
theorem dX8_pay_34 : decode cX8_pay 34 = .ok (.istore_n 3, 1) := by decide +kernel
theorem dX8_pay_35 : decode cX8_pay 35 = .ok (.aload_n 1, 1) := by decide +kernel
theorem dX8_pay_36 : decode cX8_pay 36 = .ok (.dup, 1) := by decide +kernel
theorem dX8_pay_37 : decode cX8_pay 37 = .ok (.getfield 192, 3) := by decide +kernel
theorem dX8_pay_40 : decode cX8_pay 40 = .ok (.iload_n 3, 1) := by decide +kernel
theorem dX8_pay_41 : decode cX8_pay 41 = .ok (.isub, 1) := by decide +kernel
theorem dX8_pay_42 : decode cX8_pay 42 = .ok (.putfield 192, 3) := by decide +kernel
theorem dX8_pay_45 : decode cX8_pay 45 = .ok (.aload_n 1, 1) := by decide +kernel
theorem dX8_pay_46 : decode cX8_pay 46 = .ok (.getfield 229, 3) := by decide +kernel
theorem dX8_pay_49 : decode cX8_pay 49 = .ok (.dup, 1) := by decide +kernel
theorem dX8_pay_50 : decode cX8_pay 50 = .ok (.getfield 179, 3) := by decide +kernel
theorem dX8_pay_53 : decode cX8_pay 53 = .ok (.iload_n 3, 1) := by decide +kernel
theorem dX8_pay_54 : decode cX8_pay 54 = .ok (.iadd, 1) := by decide +kernel
theorem dX8_pay_55 : decode cX8_pay 55 = .ok (.putfield 179, 3) := by decide +kernel
theorem dX8_pay_58 : decode cX8_pay 58 = .ok (.iload_n 2, 1) := by decide +kernel
theorem dX8_pay_59 : decode cX8_pay 59 = .ok (.iload_n 3, 1) := by decide +kernel
theorem dX8_pay_60 : decode cX8_pay 60 = .ok (.isub, 1) := by decide +kernel
theorem dX8_pay_61 : decode cX8_pay 61 = .ok (.istore 4, 2) := by decide +kernel
theorem dX8_pay_63 : decode cX8_pay 63 = .ok (.aload_n 0, 1) := by decide +kernel
theorem dX8_pay_64 : decode cX8_pay 64 = .ok (.aload_n 1, 1) := by decide +kernel
theorem dX8_pay_65 : decode cX8_pay 65 = .ok (.iload 4, 2) := by decide +kernel
theorem dX8_pay_67 : decode cX8_pay 67 = .ok (.aload_n 0, 1) := by decide +kernel
theorem dX8_pay_68 : decode cX8_pay 68 = .ok (.getfield 49, 3) := by decide +kernel
theorem dX8_pay_71 : decode cX8_pay 71 = .ok (.isub, 1) := by decide +kernel
theorem dX8_pay_72 : decode cX8_pay 72 = .ok (.invokevirtual 239, 3) := by decide +kernel
theorem dX8_pay_75 : decode cX8_pay 75 = .ok (.istore 5, 2) := by decide +kernel
theorem dX8_pay_77 : decode cX8_pay 77 = .ok (.aload_n 1, 1) := by decide +kernel
theorem dX8_pay_78 : decode cX8_pay 78 = .ok (.aload_n 0, 1) := by decide +kernel
theorem dX8_pay_79 : decode cX8_pay 79 = .ok (.getfield 52, 3) := by decide +kernel
theorem dX8_pay_82 : decode cX8_pay 82 = .ok (.new 243, 3) := by decide +kernel
theorem dX8_pay_85 : decode cX8_pay 85 = .ok (.dup, 1) := by decide +kernel
theorem dX8_pay_86 : decode cX8_pay 86 = .ok (.iload_n 2, 1) := by decide +kernel
theorem dX8_pay_87 : decode cX8_pay 87 = .ok (.iload_n 3, 1) := by decide +kernel
theorem dX8_pay_88 : decode cX8_pay 88 = .ok (.iload 5, 2) := by decide +kernel
theorem dX8_pay_90 : decode cX8_pay 90 = .ok (.iload 4, 2) := by decide +kernel
theorem dX8_pay_92 : decode cX8_pay 92 = .ok (.iload 5, 2) := by decide +kernel
theorem dX8_pay_94 : decode cX8_pay 94 = .ok (.isub, 1) := by decide +kernel
theorem dX8_pay_95 : decode cX8_pay 95 = .ok (.invokespecial 245, 3) := by decide +kernel
theorem dX8_pay_98 : decode cX8_pay 98 = .ok (.invokevirtual 248, 3) := by decide +kernel
theorem dX8_pay_101 : decode cX8_pay 101 = .ok (.return_, 1) := by decide +kernel
set_option maxRecDepth 20000 in
theorem ggX8_garnish_X0_payOff : GoodIn wsX8_garnish wsX0_payOff := goodIn_r _ [8, 9, 10, 11, 12, 13, 14, 15, 16, 17, 28, 29, 30, 31] (by decide +kernel) (by decide +kernel)
set_option maxRecDepth 20000 in
theorem gX8_garnish_X0_payOff : GoodIn wsX8_garnish (wsV RX8 259 RX0 yX0_payOff wsX0_payOff) := goodIn_app (goodIn_of _ (by decide +kernel)) ggX8_garnish_X0_payOff
theorem dX8_garnish_0 : decode cX8_garnish 0 = .ok (.iconst 0, 1) := by decide +kernel
theorem dX8_garnish_1 : decode cX8_garnish 1 = .ok (.istore_n 3, 1) := by decide +kernel
theorem dX8_garnish_2 : decode cX8_garnish 2 = .ok (.iconst 0, 1) := by decide +kernel
theorem dX8_garnish_3 : decode cX8_garnish 3 = .ok (.istore 4, 2) := by decide +kernel
theorem dX8_garnish_5 : decode cX8_garnish 5 = .ok (.iload 4, 2) := by decide +kernel
theorem dX8_garnish_7 : decode cX8_garnish 7 = .ok (.iconst 3, 1) := by decide +kernel
theorem dX8_garnish_8 : decode cX8_garnish 8 = .ok (.if_icmp .ge 78, 3) := by decide +kernel
theorem dX8_garnish_11 : decode cX8_garnish 11 = .ok (.aload_n 0, 1) := by decide +kernel
theorem dX8_garnish_12 : decode cX8_garnish 12 = .ok (.getfield 29, 3) := by decide +kernel
theorem dX8_garnish_15 : decode cX8_garnish 15 = .ok (.astore 5, 2) := by decide +kernel
theorem dX8_garnish_17 : decode cX8_garnish 17 = .ok (.aload 5, 2) := by decide +kernel
theorem dX8_garnish_19 : decode cX8_garnish 19 = .ok (.arraylength, 1) := by decide +kernel
theorem dX8_garnish_20 : decode cX8_garnish 20 = .ok (.istore 6, 2) := by decide +kernel
theorem dX8_garnish_22 : decode cX8_garnish 22 = .ok (.iconst 0, 1) := by decide +kernel
theorem dX8_garnish_23 : decode cX8_garnish 23 = .ok (.istore 7, 2) := by decide +kernel
theorem dX8_garnish_25 : decode cX8_garnish 25 = .ok (.iload 7, 2) := by decide +kernel
theorem dX8_garnish_27 : decode cX8_garnish 27 = .ok (.iload 6, 2) := by decide +kernel
theorem dX8_garnish_29 : decode cX8_garnish 29 = .ok (.if_icmp .ge 51, 3) := by decide +kernel
theorem dX8_garnish_32 : decode cX8_garnish 32 = .ok (.aload 5, 2) := by decide +kernel
theorem dX8_garnish_34 : decode cX8_garnish 34 = .ok (.iload 7, 2) := by decide +kernel
theorem dX8_garnish_36 : decode cX8_garnish 36 = .ok (.aaload, 1) := by decide +kernel
theorem dX8_garnish_37 : decode cX8_garnish 37 = .ok (.astore 8, 2) := by decide +kernel
theorem dX8_garnish_39 : decode cX8_garnish 39 = .ok (.aload 8, 2) := by decide +kernel
theorem dX8_garnish_41 : decode cX8_garnish 41 = .ok (.ifnull 33, 3) := by decide +kernel
theorem dX8_garnish_44 : decode cX8_garnish 44 = .ok (.aload 8, 2) := by decide +kernel
theorem dX8_garnish_46 : decode cX8_garnish 46 = .ok (.getfield 252, 3) := by decide +kernel
theorem dX8_garnish_49 : decode cX8_garnish 49 = .ok (.aload_n 1, 1) := by decide +kernel
theorem dX8_garnish_50 : decode cX8_garnish 50 = .ok (.if_acmp .ne 24, 3) := by decide +kernel
theorem dX8_garnish_53 : decode cX8_garnish 53 = .ok (.aload 8, 2) := by decide +kernel
theorem dX8_garnish_55 : decode cX8_garnish 55 = .ok (.getfield 256, 3) := by decide +kernel
theorem dX8_garnish_58 : decode cX8_garnish 58 = .ok (.iload 4, 2) := by decide +kernel
theorem dX8_garnish_60 : decode cX8_garnish 60 = .ok (.if_icmp .ne 14, 3) := by decide +kernel
theorem dX8_garnish_63 : decode cX8_garnish 63 = .ok (.iload_n 3, 1) := by decide +kernel
theorem dX8_garnish_64 : decode cX8_garnish 64 = .ok (.aload 8, 2) := by decide +kernel
theorem dX8_garnish_66 : decode cX8_garnish 66 = .ok (.iload_n 2, 1) := by decide +kernel
theorem dX8_garnish_67 : decode cX8_garnish 67 = .ok (.iload_n 3, 1) := by decide +kernel
theorem dX8_garnish_68 : decode cX8_garnish 68 = .ok (.isub, 1) := by decide +kernel
theorem dX8_garnish_69 : decode cX8_garnish 69 = .ok (.invokevirtual 259, 3) := by decide +kernel
theorem dX8_garnish_72 : decode cX8_garnish 72 = .ok (.iadd, 1) := by decide +kernel
theorem dX8_garnish_73 : decode cX8_garnish 73 = .ok (.istore_n 3, 1) := by decide +kernel
theorem dX8_garnish_74 : decode cX8_garnish 74 = .ok (.iinc 7 1, 3) := by decide +kernel
theorem dX8_garnish_77 : decode cX8_garnish 77 = .ok (.goto (-52), 3) := by decide +kernel
theorem dX8_garnish_80 : decode cX8_garnish 80 = .ok (.iinc 4 1, 3) := by decide +kernel
theorem dX8_garnish_83 : decode cX8_garnish 83 = .ok (.goto (-78), 3) := by decide +kernel
theorem dX8_garnish_86 : decode cX8_garnish 86 = .ok (.iload_n 3, 1) := by decide +kernel
theorem dX8_garnish_87 : decode cX8_garnish 87 = .ok (.ireturn, 1) := by decide +kernel
end
section
theorem dX9_init_0 : decode cX9_init 0 = .ok (.aload_n 0, 1) := by decide +kernel
theorem dX9_init_1 : decode cX9_init 1 = .ok (.invokespecial 1, 3) := by decide +kernel
theorem dX9_init_4 : decode cX9_init 4 = .ok (.aload_n 0, 1) := by decide +kernel
theorem dX9_init_5 : decode cX9_init 5 = .ok (.bipush 8, 2) := by decide +kernel
theorem dX9_init_7 : decode cX9_init 7 = .ok (.newarray .int, 2) := by decide +kernel
theorem dX9_init_9 : decode cX9_init 9 = .ok (.putfield 7, 3) := by decide +kernel
theorem dX9_init_12 : decode cX9_init 12 = .ok (.aload_n 0, 1) := by decide +kernel
theorem dX9_init_13 : decode cX9_init 13 = .ok (.sipush 248, 3) := by decide +kernel
theorem dX9_init_16 : decode cX9_init 16 = .ok (.newarray .int, 2) := by decide +kernel
theorem dX9_init_18 : decode cX9_init 18 = .ok (.putfield 13, 3) := by decide +kernel
theorem dX9_init_21 : decode cX9_init 21 = .ok (.aload_n 0, 1) := by decide +kernel
theorem dX9_init_22 : decode cX9_init 22 = .ok (.bipush 93, 2) := by decide +kernel
theorem dX9_init_24 : decode cX9_init 24 = .ok (.newarray .int, 2) := by decide +kernel
theorem dX9_init_26 : decode cX9_init 26 = .ok (.putfield 16, 3) := by decide +kernel
theorem dX9_init_29 : decode cX9_init 29 = .ok (.aload_n 0, 1) := by decide +kernel
theorem dX9_init_30 : decode cX9_init 30 = .ok (.bipush 93, 2) := by decide +kernel
theorem dX9_init_32 : decode cX9_init 32 = .ok (.newarray .int, 2) := by decide +kernel
theorem dX9_init_34 : decode cX9_init 34 = .ok (.putfield 19, 3) := by decide +kernel
theorem dX9_init_37 : decode cX9_init 37 = .ok (.aload_n 0, 1) := by decide +kernel
theorem dX9_init_38 : decode cX9_init 38 = .ok (.sipush 160, 3) := by decide +kernel
theorem dX9_init_41 : decode cX9_init 41 = .ok (.newarray .int, 2) := by decide +kernel
theorem dX9_init_43 : decode cX9_init 43 = .ok (.putfield 22, 3) := by decide +kernel
theorem dX9_init_46 : decode cX9_init 46 = .ok (.aload_n 0, 1) := by decide +kernel
theorem dX9_init_47 : decode cX9_init 47 = .ok (.sipush 160, 3) := by decide +kernel
theorem dX9_init_50 : decode cX9_init 50 = .ok (.newarray .int, 2) := by decide +kernel
theorem dX9_init_52 : decode cX9_init 52 = .ok (.putfield 25, 3) := by decide +kernel
theorem dX9_init_55 : decode cX9_init 55 = .ok (.aload_n 0, 1) := by decide +kernel
theorem dX9_init_56 : decode cX9_init 56 = .ok (.sipush 160, 3) := by decide +kernel
theorem dX9_init_59 : decode cX9_init 59 = .ok (.newarray .int, 2) := by decide +kernel
theorem dX9_init_61 : decode cX9_init 61 = .ok (.putfield 28, 3) := by decide +kernel
theorem dX9_init_64 : decode cX9_init 64 = .ok (.aload_n 0, 1) := by decide +kernel
theorem dX9_init_65 : decode cX9_init 65 = .ok (.bipush 8, 2) := by decide +kernel
theorem dX9_init_67 : decode cX9_init 67 = .ok (.newarray .int, 2) := by decide +kernel
theorem dX9_init_69 : decode cX9_init 69 = .ok (.putfield 31, 3) := by decide +kernel
theorem dX9_init_72 : decode cX9_init 72 = .ok (.aload_n 0, 1) := by decide +kernel
theorem dX9_init_73 : decode cX9_init 73 = .ok (.bipush 8, 2) := by decide +kernel
theorem dX9_init_75 : decode cX9_init 75 = .ok (.newarray .int, 2) := by decide +kernel
theorem dX9_init_77 : decode cX9_init 77 = .ok (.putfield 34, 3) := by decide +kernel
theorem dX9_init_80 : decode cX9_init 80 = .ok (.aload_n 0, 1) := by decide +kernel
theorem dX9_init_81 : decode cX9_init 81 = .ok (.sipush 992, 3) := by decide +kernel
theorem dX9_init_84 : decode cX9_init 84 = .ok (.newarray .int, 2) := by decide +kernel
theorem dX9_init_86 : decode cX9_init 86 = .ok (.putfield 37, 3) := by decide +kernel
theorem dX9_init_89 : decode cX9_init 89 = .ok (.aload_n 0, 1) := by decide +kernel
theorem dX9_init_90 : decode cX9_init 90 = .ok (.bipush 20, 2) := by decide +kernel
theorem dX9_init_92 : decode cX9_init 92 = .ok (.newarray .int, 2) := by decide +kernel
theorem dX9_init_94 : decode cX9_init 94 = .ok (.putfield 40, 3) := by decide +kernel
theorem dX9_init_97 : decode cX9_init 97 = .ok (.aload_n 0, 1) := by decide +kernel
theorem dX9_init_98 : decode cX9_init 98 = .ok (.bipush 20, 2) := by decide +kernel
theorem dX9_init_100 : decode cX9_init 100 = .ok (.newarray .int, 2) := by decide +kernel
theorem dX9_init_102 : decode cX9_init 102 = .ok (.putfield 43, 3) := by decide +kernel
theorem dX9_init_105 : decode cX9_init 105 = .ok (.aload_n 0, 1) := by decide +kernel
theorem dX9_init_106 : decode cX9_init 106 = .ok (.bipush 20, 2) := by decide +kernel
theorem dX9_init_108 : decode cX9_init 108 = .ok (.newarray .int, 2) := by decide +kernel
theorem dX9_init_110 : decode cX9_init 110 = .ok (.putfield 46, 3) := by decide +kernel
theorem dX9_init_113 : decode cX9_init 113 = .ok (.aload_n 0, 1) := by decide +kernel
theorem dX9_init_114 : decode cX9_init 114 = .ok (.bipush 20, 2) := by decide +kernel
theorem dX9_init_116 : decode cX9_init 116 = .ok (.newarray .int, 2) := by decide +kernel
theorem dX9_init_118 : decode cX9_init 118 = .ok (.putfield 49, 3) := by decide +kernel
theorem dX9_init_121 : decode cX9_init 121 = .ok (.aload_n 0, 1) := by decide +kernel
theorem dX9_init_122 : decode cX9_init 122 = .ok (.sipush 20000, 3) := by decide +kernel
theorem dX9_init_125 : decode cX9_init 125 = .ok (.putfield 52, 3) := by decide +kernel
theorem dX9_init_128 : decode cX9_init 128 = .ok (.aload_n 0, 1) := by decide +kernel
theorem dX9_init_129 : decode cX9_init 129 = .ok (.iconst 3, 1) := by decide +kernel
theorem dX9_init_130 : decode cX9_init 130 = .ok (.newarray .int, 2) := by decide +kernel
theorem dX9_init_132 : decode cX9_init 132 = .ok (.putfield 56, 3) := by decide +kernel
theorem dX9_init_135 : decode cX9_init 135 = .ok (.aload_n 0, 1) := by decide +kernel
theorem dX9_init_136 : decode cX9_init 136 = .ok (.iconst 3, 1) := by decide +kernel
theorem dX9_init_137 : decode cX9_init 137 = .ok (.newarray .int, 2) := by decide +kernel
theorem dX9_init_139 : decode cX9_init 139 = .ok (.putfield 59, 3) := by decide +kernel
theorem dX9_init_142 : decode cX9_init 142 = .ok (.aload_n 0, 1) := by decide +kernel
theorem dX9_init_143 : decode cX9_init 143 = .ok (.bipush 40, 2) := by decide +kernel
theorem dX9_init_145 : decode cX9_init 145 = .ok (.newarray .int, 2) := by decide +kernel
theorem dX9_init_147 : decode cX9_init 147 = .ok (.putfield 62, 3) := by decide +kernel
theorem dX9_init_150 : decode cX9_init 150 = .ok (.aload_n 0, 1) := by decide +kernel
theorem dX9_init_151 : decode cX9_init 151 = .ok (.bipush 40, 2) := by decide +kernel
theorem dX9_init_153 : decode cX9_init 153 = .ok (.newarray .int, 2) := by decide +kernel
theorem dX9_init_155 : decode cX9_init 155 = .ok (.putfield 65, 3) := by decide +kernel
theorem dX9_init_158 : decode cX9_init 158 = .ok (.aload_n 0, 1) := by decide +kernel
theorem dX9_init_159 : decode cX9_init 159 = .ok (.bipush 40, 2) := by decide +kernel
theorem dX9_init_161 : decode cX9_init 161 = .ok (.newarray .boolean, 2) := by decide +kernel
theorem dX9_init_163 : decode cX9_init 163 = .ok (.putfield 68, 3) := by decide +kernel
theorem dX9_init_166 : decode cX9_init 166 = .ok (.iconst 0, 1) := by decide +kernel
theorem dX9_init_167 : decode cX9_init 167 = .ok (.istore_n 1, 1) := by decide +kernel
theorem dX9_init_168 : decode cX9_init 168 = .ok (.iload_n 1, 1) := by decide +kernel
theorem dX9_init_169 : decode cX9_init 169 = .ok (.sipush 248, 3) := by decide +kernel
theorem dX9_init_172 : decode cX9_init 172 = .ok (.if_icmp .ge 27, 3) := by decide +kernel
theorem dX9_init_175 : decode cX9_init 175 = .ok (.aload_n 0, 1) := by decide +kernel
theorem dX9_init_176 : decode cX9_init 176 = .ok (.getfield 13, 3) := by decide +kernel
theorem dX9_init_179 : decode cX9_init 179 = .ok (.iload_n 1, 1) := by decide +kernel
theorem dX9_init_180 : decode cX9_init 180 = .ok (.iload_n 1, 1) := by decide +kernel
theorem dX9_init_181 : decode cX9_init 181 = .ok (.bipush 31, 2) := by decide +kernel
theorem dX9_init_183 : decode cX9_init 183 = .ok (.irem, 1) := by decide +kernel
theorem dX9_init_184 : decode cX9_init 184 = .ok (.ifCond .ne 7, 3) := by decide +kernel
theorem dX9_init_187 : decode cX9_init 187 = .ok (.iconst 0, 1) := by decide +kernel
theorem dX9_init_188 : decode cX9_init 188 = .ok (.goto 4, 3) := by decide +kernel
theorem dX9_init_191 : decode cX9_init 191 = .ok (.iconst (-1), 1) := by decide +kernel
theorem dX9_init_192 : decode cX9_init 192 = .ok (.iastore, 1) := by decide +kernel
theorem dX9_init_193 : decode cX9_init 193 = .ok (.iinc 1 1, 3) := by decide +kernel
theorem dX9_init_196 : decode cX9_init 196 = .ok (.goto (-28), 3) := by decide +kernel
theorem dX9_init_199 : decode cX9_init 199 = .ok (.iconst 0, 1) := by decide +kernel
theorem dX9_init_200 : decode cX9_init 200 = .ok (.istore_n 1, 1) := by decide +kernel
theorem dX9_init_201 : decode cX9_init 201 = .ok (.iload_n 1, 1) := by decide +kernel
theorem dX9_init_202 : decode cX9_init 202 = .ok (.bipush 93, 2) := by decide +kernel
theorem dX9_init_204 : decode cX9_init 204 = .ok (.if_icmp .ge 49, 3) := by decide +kernel
theorem dX9_init_207 : decode cX9_init 207 = .ok (.aload_n 0, 1) := by decide +kernel
theorem dX9_init_208 : decode cX9_init 208 = .ok (.getfield 16, 3) := by decide +kernel
theorem dX9_init_211 : decode cX9_init 211 = .ok (.iload_n 1, 1) := by decide +kernel
theorem dX9_init_212 : decode cX9_init 212 = .ok (.iload_n 1, 1) := by decide +kernel
theorem dX9_init_213 : decode cX9_init 213 = .ok (.bipush 31, 2) := by decide +kernel
theorem dX9_init_215 : decode cX9_init 215 = .ok (.irem, 1) := by decide +kernel
theorem dX9_init_216 : decode cX9_init 216 = .ok (.ifCond .ne 9, 3) := by decide +kernel
theorem dX9_init_219 : decode cX9_init 219 = .ok (.sipush 1000, 3) := by decide +kernel
theorem dX9_init_222 : decode cX9_init 222 = .ok (.goto 4, 3) := by decide +kernel
theorem dX9_init_225 : decode cX9_init 225 = .ok (.iconst (-1), 1) := by decide +kernel
theorem dX9_init_226 : decode cX9_init 226 = .ok (.iastore, 1) := by decide +kernel
theorem dX9_init_227 : decode cX9_init 227 = .ok (.aload_n 0, 1) := by decide +kernel
theorem dX9_init_228 : decode cX9_init 228 = .ok (.getfield 19, 3) := by decide +kernel
theorem dX9_init_231 : decode cX9_init 231 = .ok (.iload_n 1, 1) := by decide +kernel
theorem dX9_init_232 : decode cX9_init 232 = .ok (.iload_n 1, 1) := by decide +kernel
theorem dX9_init_233 : decode cX9_init 233 = .ok (.bipush 31, 2) := by decide +kernel
theorem dX9_init_235 : decode cX9_init 235 = .ok (.irem, 1) := by decide +kernel
theorem dX9_init_236 : decode cX9_init 236 = .ok (.ifCond .ne 9, 3) := by decide +kernel
theorem dX9_init_239 : decode cX9_init 239 = .ok (.sipush 1500, 3) := by decide +kernel
theorem dX9_init_242 : decode cX9_init 242 = .ok (.goto 4, 3) := by decide +kernel
theorem dX9_init_245 : decode cX9_init 245 = .ok (.iconst (-1), 1) := by decide +kernel
theorem dX9_init_246 : decode cX9_init 246 = .ok (.iastore, 1) := by decide +kernel
theorem dX9_init_247 : decode cX9_init 247 = .ok (.iinc 1 1, 3) := by decide +kernel
theorem dX9_init_250 : decode cX9_init 250 = .ok (.goto (-49), 3) := by decide +kernel
theorem dX9_init_253 : decode cX9_init 253 = .ok (.iconst 0, 1) := by decide +kernel
theorem dX9_init_254 : decode cX9_init 254 = .ok (.istore_n 1, 1) := by decide +kernel
theorem dX9_init_255 : decode cX9_init 255 = .ok (.iload_n 1, 1) := by decide +kernel
theorem dX9_init_256 : decode cX9_init 256 = .ok (.sipush 160, 3) := by decide +kernel
theorem dX9_init_259 : decode cX9_init 259 = .ok (.if_icmp .ge 16, 3) := by decide +kernel
theorem dX9_init_262 : decode cX9_init 262 = .ok (.aload_n 0, 1) := by decide +kernel
theorem dX9_init_263 : decode cX9_init 263 = .ok (.getfield 22, 3) := by decide +kernel
theorem dX9_init_266 : decode cX9_init 266 = .ok (.iload_n 1, 1) := by decide +kernel
theorem dX9_init_267 : decode cX9_init 267 = .ok (.iconst (-1), 1) := by decide +kernel
theorem dX9_init_268 : decode cX9_init 268 = .ok (.iastore, 1) := by decide +kernel
theorem dX9_init_269 : decode cX9_init 269 = .ok (.iinc 1 1, 3) := by decide +kernel
theorem dX9_init_272 : decode cX9_init 272 = .ok (.goto (-17), 3) := by decide +kernel
theorem dX9_init_275 : decode cX9_init 275 = .ok (.return_, 1) := by decide +kernel
theorem dX9_thrown_0 : decode cX9_thrown 0 = .ok (.aload_n 0, 1) := by decide +kernel
theorem dX9_thrown_1 : decode cX9_thrown 1 = .ok (.getfield 72, 3) := by decide +kernel
theorem dX9_thrown_4 : decode cX9_thrown 4 = .ok (.ireturn, 1) := by decide +kernel
theorem dX9_holds_0 : decode cX9_holds 0 = .ok (.aload_n 0, 1) := by decide +kernel
theorem dX9_holds_1 : decode cX9_holds 1 = .ok (.iload_n 1, 1) := by decide +kernel
theorem dX9_holds_2 : decode cX9_holds 2 = .ok (.putfield 72, 3) := by decide +kernel
theorem dX9_holds_5 : decode cX9_holds 5 = .ok (.iload_n 1, 1) := by decide +kernel
theorem dX9_holds_6 : decode cX9_holds 6 = .ok (.ifCond .ne 7, 3) := by decide +kernel
theorem dX9_holds_9 : decode cX9_holds 9 = .ok (.iconst 1, 1) := by decide +kernel
theorem dX9_holds_10 : decode cX9_holds 10 = .ok (.goto 4, 3) := by decide +kernel
theorem dX9_holds_13 : decode cX9_holds 13 = .ok (.iconst 0, 1) := by decide +kernel
theorem dX9_holds_14 : decode cX9_holds 14 = .ok (.ireturn, 1) := by decide +kernel
theorem dX9_in_0 : decode cX9_in 0 = .ok (.iload_n 0, 1) := by decide +kernel
theorem dX9_in_1 : decode cX9_in 1 = .ok (.iload_n 1, 1) := by decide +kernel
theorem dX9_in_2 : decode cX9_in 2 = .ok (.if_icmp .lt 12, 3) := by decide +kernel
theorem dX9_in_5 : decode cX9_in 5 = .ok (.iload_n 0, 1) := by decide +kernel
theorem dX9_in_6 : decode cX9_in 6 = .ok (.iload_n 2, 1) := by decide +kernel
theorem dX9_in_7 : decode cX9_in 7 = .ok (.if_icmp .gt 7, 3) := by decide +kernel
theorem dX9_in_10 : decode cX9_in 10 = .ok (.iconst 1, 1) := by decide +kernel
theorem dX9_in_11 : decode cX9_in 11 = .ok (.goto 4, 3) := by decide +kernel
theorem dX9_in_14 : decode cX9_in 14 = .ok (.iconst 0, 1) := by decide +kernel
theorem dX9_in_15 : decode cX9_in 15 = .ok (.ireturn, 1) := by decide +kernel
set_option maxRecDepth 20000 in
theorem ggX9_isWorker_X9_in : GoodIn wsX9_isWorker wsX9_in := goodIn_r _ [5] (by decide +kernel) (by decide +kernel)
set_option maxRecDepth 20000 in
theorem gX9_isWorker_X9_in : GoodIn wsX9_isWorker (va_wsS RX9 78 yX9_in wsX9_in) := goodIn_app (goodIn_of _ (by decide +kernel)) ggX9_isWorker_X9_in
theorem dX9_isWorker_0 : decode cX9_isWorker 0 = .ok (.iload_n 1, 1) := by decide +kernel
theorem dX9_isWorker_1 : decode cX9_isWorker 1 = .ok (.iconst 0, 1) := by decide +kernel
theorem dX9_isWorker_2 : decode cX9_isWorker 2 = .ok (.aload_n 0, 1) := by decide +kernel
theorem dX9_isWorker_3 : decode cX9_isWorker 3 = .ok (.getfield 75, 3) := by decide +kernel
theorem dX9_isWorker_6 : decode cX9_isWorker 6 = .ok (.iconst 1, 1) := by decide +kernel
theorem dX9_isWorker_7 : decode cX9_isWorker 7 = .ok (.isub, 1) := by decide +kernel
theorem dX9_isWorker_8 : decode cX9_isWorker 8 = .ok (.invokestatic 78, 3) := by decide +kernel
theorem dX9_isWorker_11 : decode cX9_isWorker 11 = .ok (.ireturn, 1) := by decide +kernel
set_option maxRecDepth 20000 in
theorem ggX9_isWeek_X9_in : GoodIn wsX9_isWeek wsX9_in := goodIn_r _ [4] (by decide +kernel) (by decide +kernel)
set_option maxRecDepth 20000 in
theorem gX9_isWeek_X9_in : GoodIn wsX9_isWeek (va_wsS RX9 78 yX9_in wsX9_in) := goodIn_app (goodIn_of _ (by decide +kernel)) ggX9_isWeek_X9_in
theorem dX9_isWeek_0 : decode cX9_isWeek 0 = .ok (.iload_n 0, 1) := by decide +kernel
theorem dX9_isWeek_1 : decode cX9_isWeek 1 = .ok (.iconst 0, 1) := by decide +kernel
theorem dX9_isWeek_2 : decode cX9_isWeek 2 = .ok (.bipush 30, 2) := by decide +kernel
theorem dX9_isWeek_4 : decode cX9_isWeek 4 = .ok (.invokestatic 78, 3) := by decide +kernel
theorem dX9_isWeek_7 : decode cX9_isWeek 7 = .ok (.ireturn, 1) := by decide +kernel
set_option maxRecDepth 20000 in
theorem ggX9_areHours_X9_in : GoodIn wsX9_areHours wsX9_in := goodIn_r _ [4] (by decide +kernel) (by decide +kernel)
set_option maxRecDepth 20000 in
theorem gX9_areHours_X9_in : GoodIn wsX9_areHours (va_wsS RX9 78 yX9_in wsX9_in) := goodIn_app (goodIn_of _ (by decide +kernel)) ggX9_areHours_X9_in
theorem dX9_areHours_0 : decode cX9_areHours 0 = .ok (.iload_n 0, 1) := by decide +kernel
theorem dX9_areHours_1 : decode cX9_areHours 1 = .ok (.iconst 0, 1) := by decide +kernel
theorem dX9_areHours_2 : decode cX9_areHours 2 = .ok (.bipush 100, 2) := by decide +kernel
theorem dX9_areHours_4 : decode cX9_areHours 4 = .ok (.invokestatic 78, 3) := by decide +kernel
theorem dX9_areHours_7 : decode cX9_areHours 7 = .ok (.ifCond .eq 17, 3) := by decide +kernel
theorem dX9_areHours_10 : decode cX9_areHours 10 = .ok (.iload_n 1, 1) := by decide +kernel
theorem dX9_areHours_11 : decode cX9_areHours 11 = .ok (.iconst 0, 1) := by decide +kernel
theorem dX9_areHours_12 : decode cX9_areHours 12 = .ok (.bipush 100, 2) := by decide +kernel
theorem dX9_areHours_14 : decode cX9_areHours 14 = .ok (.invokestatic 78, 3) := by decide +kernel
theorem dX9_areHours_17 : decode cX9_areHours 17 = .ok (.ifCond .eq 7, 3) := by decide +kernel
theorem dX9_areHours_20 : decode cX9_areHours 20 = .ok (.iconst 1, 1) := by decide +kernel
theorem dX9_areHours_21 : decode cX9_areHours 21 = .ok (.goto 4, 3) := by decide +kernel
theorem dX9_areHours_24 : decode cX9_areHours 24 = .ok (.iconst 0, 1) := by decide +kernel
theorem dX9_areHours_25 : decode cX9_areHours 25 = .ok (.ireturn, 1) := by decide +kernel
theorem dX9_least_0 : decode cX9_least 0 = .ok (.iload_n 0, 1) := by decide +kernel
theorem dX9_least_1 : decode cX9_least 1 = .ok (.iload_n 1, 1) := by decide +kernel
theorem dX9_least_2 : decode cX9_least 2 = .ok (.if_icmp .ge 7, 3) := by decide +kernel
theorem dX9_least_5 : decode cX9_least 5 = .ok (.iload_n 0, 1) := by decide +kernel
theorem dX9_least_6 : decode cX9_least 6 = .ok (.goto 4, 3) := by decide +kernel
theorem dX9_least_9 : decode cX9_least 9 = .ok (.iload_n 1, 1) := by decide +kernel
theorem dX9_least_10 : decode cX9_least 10 = .ok (.ireturn, 1) := by decide +kernel
set_option maxRecDepth 20000 in
theorem ggX9_addWorker_X9_in : GoodIn wsX9_addWorker wsX9_in := goodIn_r _ [6] (by decide +kernel) (by decide +kernel)
set_option maxRecDepth 20000 in
theorem gX9_addWorker_X9_in : GoodIn wsX9_addWorker (va_wsS RX9 78 yX9_in wsX9_in) := goodIn_app (goodIn_of _ (by decide +kernel)) ggX9_addWorker_X9_in
set_option maxRecDepth 20000 in
theorem ggX9_addWorker_X9_holds : GoodIn wsX9_addWorker wsX9_holds := goodIn_r _ [10, 11, 12, 13, 14, 15, 16, 17, 18, 19, 20, 21, 22, 23, 24, 25, 26, 27, 28, 29, 30, 31, 32, 33, 34, 35, 36] (by decide +kernel) (by decide +kernel)
set_option maxRecDepth 20000 in
theorem gX9_addWorker_X9_holds : GoodIn wsX9_addWorker (wsV RX9 82 RX9 yX9_holds wsX9_holds) := goodIn_app (goodIn_of _ (by decide +kernel)) ggX9_addWorker_X9_holds
theorem dX9_addWorker_0 : decode cX9_addWorker 0 = .ok (.aload_n 0, 1) := by decide +kernel
theorem dX9_addWorker_1 : decode cX9_addWorker 1 = .ok (.iload_n 1, 1) := by decide +kernel
theorem dX9_addWorker_2 : decode cX9_addWorker 2 = .ok (.iconst 0, 1) := by decide +kernel
theorem dX9_addWorker_3 : decode cX9_addWorker 3 = .ok (.iconst 2, 1) := by decide +kernel
theorem dX9_addWorker_4 : decode cX9_addWorker 4 = .ok (.invokestatic 78, 3) := by decide +kernel
theorem dX9_addWorker_7 : decode cX9_addWorker 7 = .ok (.ifCond .ne 7, 3) := by decide +kernel
theorem dX9_addWorker_10 : decode cX9_addWorker 10 = .ok (.iconst 1, 1) := by decide +kernel
theorem dX9_addWorker_11 : decode cX9_addWorker 11 = .ok (.goto 17, 3) := by decide +kernel
theorem dX9_addWorker_14 : decode cX9_addWorker 14 = .ok (.aload_n 0, 1) := by decide +kernel
theorem dX9_addWorker_15 : decode cX9_addWorker 15 = .ok (.getfield 75, 3) := by decide +kernel
theorem dX9_addWorker_18 : decode cX9_addWorker 18 = .ok (.bipush 8, 2) := by decide +kernel
theorem dX9_addWorker_20 : decode cX9_addWorker 20 = .ok (.if_icmp .ne 7, 3) := by decide +kernel
theorem dX9_addWorker_23 : decode cX9_addWorker 23 = .ok (.iconst 2, 1) := by decide +kernel
theorem dX9_addWorker_24 : decode cX9_addWorker 24 = .ok (.goto 4, 3) := by decide +kernel
theorem dX9_addWorker_27 : decode cX9_addWorker 27 = .ok (.iconst 0, 1) := by decide +kernel
theorem dX9_addWorker_28 : decode cX9_addWorker 28 = .ok (.invokevirtual 82, 3) := by decide +kernel
theorem dX9_addWorker_31 : decode cX9_addWorker 31 = .ok (.ifCond .ne 5, 3) := by decide +kernel
theorem dX9_addWorker_34 : decode cX9_addWorker 34 = .ok (.iconst 0, 1) := by decide +kernel
theorem dX9_addWorker_35 : decode cX9_addWorker 35 = .ok (.ireturn, 1) := by decide +kernel
theorem dX9_addWorker_36 : decode cX9_addWorker 36 = .ok (.aload_n 0, 1) := by decide +kernel
theorem dX9_addWorker_37 : decode cX9_addWorker 37 = .ok (.getfield 7, 3) := by decide +kernel
theorem dX9_addWorker_40 : decode cX9_addWorker 40 = .ok (.aload_n 0, 1) := by decide +kernel
theorem dX9_addWorker_41 : decode cX9_addWorker 41 = .ok (.getfield 75, 3) := by decide +kernel
theorem dX9_addWorker_44 : decode cX9_addWorker 44 = .ok (.iload_n 1, 1) := by decide +kernel
theorem dX9_addWorker_45 : decode cX9_addWorker 45 = .ok (.iastore, 1) := by decide +kernel
theorem dX9_addWorker_46 : decode cX9_addWorker 46 = .ok (.aload_n 0, 1) := by decide +kernel
theorem dX9_addWorker_47 : decode cX9_addWorker 47 = .ok (.dup, 1) := by decide +kernel
theorem dX9_addWorker_48 : decode cX9_addWorker 48 = .ok (.getfield 75, 3) := by decide +kernel
theorem dX9_addWorker_51 : decode cX9_addWorker 51 = .ok (.iconst 1, 1) := by decide +kernel
theorem dX9_addWorker_52 : decode cX9_addWorker 52 = .ok (.iadd, 1) := by decide +kernel
theorem dX9_addWorker_53 : decode cX9_addWorker 53 = .ok (.putfield 75, 3) := by decide +kernel
theorem dX9_addWorker_56 : decode cX9_addWorker 56 = .ok (.aload_n 0, 1) := by decide +kernel
theorem dX9_addWorker_57 : decode cX9_addWorker 57 = .ok (.getfield 75, 3) := by decide +kernel
theorem dX9_addWorker_60 : decode cX9_addWorker 60 = .ok (.iconst 1, 1) := by decide +kernel
theorem dX9_addWorker_61 : decode cX9_addWorker 61 = .ok (.isub, 1) := by decide +kernel
theorem dX9_addWorker_62 : decode cX9_addWorker 62 = .ok (.ireturn, 1) := by decide +kernel
theorem dX9_told_0 : decode cX9_told 0 = .ok (.bipush 31, 2) := by decide +kernel
theorem dX9_told_2 : decode cX9_told 2 = .ok (.iload_n 1, 1) := by decide +kernel
theorem dX9_told_3 : decode cX9_told 3 = .ok (.imul, 1) := by decide +kernel
theorem dX9_told_4 : decode cX9_told 4 = .ok (.iload_n 2, 1) := by decide +kernel
theorem dX9_told_5 : decode cX9_told 5 = .ok (.iadd, 1) := by decide +kernel
theorem dX9_told_6 : decode cX9_told 6 = .ok (.istore_n 3, 1) := by decide +kernel
theorem dX9_told_7 : decode cX9_told 7 = .ok (.aload_n 0, 1) := by decide +kernel
theorem dX9_told_8 : decode cX9_told 8 = .ok (.iload_n 3, 1) := by decide +kernel
theorem dX9_told_9 : decode cX9_told 9 = .ok (.iaload, 1) := by decide +kernel
theorem dX9_told_10 : decode cX9_told 10 = .ok (.iconst (-1), 1) := by decide +kernel
theorem dX9_told_11 : decode cX9_told 11 = .ok (.if_icmp .ne 9, 3) := by decide +kernel
theorem dX9_told_14 : decode cX9_told 14 = .ok (.iinc 3 (-1), 3) := by decide +kernel
theorem dX9_told_17 : decode cX9_told 17 = .ok (.goto (-10), 3) := by decide +kernel
theorem dX9_told_20 : decode cX9_told 20 = .ok (.iload_n 3, 1) := by decide +kernel
theorem dX9_told_21 : decode cX9_told 21 = .ok (.ireturn, 1) := by decide +kernel
set_option maxRecDepth 20000 in
theorem ggX9_setRank_X9_isWorker : GoodIn wsX9_setRank wsX9_isWorker := goodIn_r _ [6, 7, 8, 9, 5, 10, 22, 23, 24, 25, 26, 27, 28, 29, 30, 31, 32, 33, 34, 35, 36, 37, 38, 39, 40, 41, 42, 43, 44, 45, 46] (by decide +kernel) (by decide +kernel)
set_option maxRecDepth 20000 in
theorem gX9_setRank_X9_isWorker : GoodIn wsX9_setRank (wsV RX9 86 RX9 yX9_isWorker wsX9_isWorker) := goodIn_app (goodIn_of _ (by decide +kernel)) ggX9_setRank_X9_isWorker
set_option maxRecDepth 20000 in
theorem ggX9_setRank_X9_in : GoodIn wsX9_setRank wsX9_in := goodIn_r _ [10] (by decide +kernel) (by decide +kernel)
set_option maxRecDepth 20000 in
theorem gX9_setRank_X9_in : GoodIn wsX9_setRank (va_wsS RX9 78 yX9_in wsX9_in) := goodIn_app (goodIn_of _ (by decide +kernel)) ggX9_setRank_X9_in
set_option maxRecDepth 20000 in
theorem ggX9_setRank_X9_isWeek : GoodIn wsX9_setRank wsX9_isWeek := goodIn_r _ [13, 8, 9, 5, 10] (by decide +kernel) (by decide +kernel)
set_option maxRecDepth 20000 in
theorem gX9_setRank_X9_isWeek : GoodIn wsX9_setRank (va_wsS RX9 89 yX9_isWeek wsX9_isWeek) := goodIn_app (goodIn_of _ (by decide +kernel)) ggX9_setRank_X9_isWeek
set_option maxRecDepth 20000 in
theorem ggX9_setRank_X9_holds : GoodIn wsX9_setRank wsX9_holds := goodIn_r _ [17, 18, 22, 23, 24, 25, 26, 27, 28, 29, 30, 31, 32, 33, 34, 35, 36, 37, 38, 39, 40, 41, 42, 43, 44, 45, 46] (by decide +kernel) (by decide +kernel)
set_option maxRecDepth 20000 in
theorem gX9_setRank_X9_holds : GoodIn wsX9_setRank (wsV RX9 82 RX9 yX9_holds wsX9_holds) := goodIn_app (goodIn_of _ (by decide +kernel)) ggX9_setRank_X9_holds
set_option maxRecDepth 20000 in
theorem ggX9_setRank_X9_told : GoodIn wsX9_setRank wsX9_told := goodIn_r _ [21] (by decide +kernel) (by decide +kernel)
set_option maxRecDepth 20000 in
theorem gX9_setRank_X9_told : GoodIn wsX9_setRank (va_wsS RX9 92 yX9_told wsX9_told) := goodIn_app (goodIn_of _ (by decide +kernel)) ggX9_setRank_X9_told
theorem dX9_setRank_0 : decode cX9_setRank 0 = .ok (.aload_n 0, 1) := by decide +kernel
theorem dX9_setRank_1 : decode cX9_setRank 1 = .ok (.iload_n 1, 1) := by decide +kernel
theorem dX9_setRank_2 : decode cX9_setRank 2 = .ok (.invokevirtual 86, 3) := by decide +kernel
theorem dX9_setRank_5 : decode cX9_setRank 5 = .ok (.ifCond .eq 16, 3) := by decide +kernel
theorem dX9_setRank_8 : decode cX9_setRank 8 = .ok (.iload_n 3, 1) := by decide +kernel
theorem dX9_setRank_9 : decode cX9_setRank 9 = .ok (.iconst 0, 1) := by decide +kernel
theorem dX9_setRank_10 : decode cX9_setRank 10 = .ok (.iconst 2, 1) := by decide +kernel
theorem dX9_setRank_11 : decode cX9_setRank 11 = .ok (.invokestatic 78, 3) := by decide +kernel
theorem dX9_setRank_14 : decode cX9_setRank 14 = .ok (.ifCond .eq 7, 3) := by decide +kernel
theorem dX9_setRank_17 : decode cX9_setRank 17 = .ok (.iconst 1, 1) := by decide +kernel
theorem dX9_setRank_18 : decode cX9_setRank 18 = .ok (.goto 4, 3) := by decide +kernel
theorem dX9_setRank_21 : decode cX9_setRank 21 = .ok (.iconst 0, 1) := by decide +kernel
theorem dX9_setRank_22 : decode cX9_setRank 22 = .ok (.istore 4, 2) := by decide +kernel
theorem dX9_setRank_24 : decode cX9_setRank 24 = .ok (.aload_n 0, 1) := by decide +kernel
theorem dX9_setRank_25 : decode cX9_setRank 25 = .ok (.iload 4, 2) := by decide +kernel
theorem dX9_setRank_27 : decode cX9_setRank 27 = .ok (.ifCond .ne 7, 3) := by decide +kernel
theorem dX9_setRank_30 : decode cX9_setRank 30 = .ok (.iconst 1, 1) := by decide +kernel
theorem dX9_setRank_31 : decode cX9_setRank 31 = .ok (.goto 15, 3) := by decide +kernel
theorem dX9_setRank_34 : decode cX9_setRank 34 = .ok (.iload_n 2, 1) := by decide +kernel
theorem dX9_setRank_35 : decode cX9_setRank 35 = .ok (.invokestatic 89, 3) := by decide +kernel
theorem dX9_setRank_38 : decode cX9_setRank 38 = .ok (.ifCond .eq 7, 3) := by decide +kernel
theorem dX9_setRank_41 : decode cX9_setRank 41 = .ok (.iconst 0, 1) := by decide +kernel
theorem dX9_setRank_42 : decode cX9_setRank 42 = .ok (.goto 4, 3) := by decide +kernel
theorem dX9_setRank_45 : decode cX9_setRank 45 = .ok (.iconst 2, 1) := by decide +kernel
theorem dX9_setRank_46 : decode cX9_setRank 46 = .ok (.invokevirtual 82, 3) := by decide +kernel
theorem dX9_setRank_49 : decode cX9_setRank 49 = .ok (.ifCond .ne 5, 3) := by decide +kernel
theorem dX9_setRank_52 : decode cX9_setRank 52 = .ok (.iconst 0, 1) := by decide +kernel
theorem dX9_setRank_53 : decode cX9_setRank 53 = .ok (.ireturn, 1) := by decide +kernel
theorem dX9_setRank_54 : decode cX9_setRank 54 = .ok (.aload_n 0, 1) := by decide +kernel
theorem dX9_setRank_55 : decode cX9_setRank 55 = .ok (.getfield 13, 3) := by decide +kernel
theorem dX9_setRank_58 : decode cX9_setRank 58 = .ok (.aload_n 0, 1) := by decide +kernel
theorem dX9_setRank_59 : decode cX9_setRank 59 = .ok (.getfield 13, 3) := by decide +kernel
theorem dX9_setRank_62 : decode cX9_setRank 62 = .ok (.iload_n 1, 1) := by decide +kernel
theorem dX9_setRank_63 : decode cX9_setRank 63 = .ok (.iload_n 2, 1) := by decide +kernel
theorem dX9_setRank_64 : decode cX9_setRank 64 = .ok (.invokestatic 92, 3) := by decide +kernel
theorem dX9_setRank_67 : decode cX9_setRank 67 = .ok (.iaload, 1) := by decide +kernel
theorem dX9_setRank_68 : decode cX9_setRank 68 = .ok (.istore 5, 2) := by decide +kernel
theorem dX9_setRank_70 : decode cX9_setRank 70 = .ok (.aload_n 0, 1) := by decide +kernel
theorem dX9_setRank_71 : decode cX9_setRank 71 = .ok (.getfield 13, 3) := by decide +kernel
theorem dX9_setRank_74 : decode cX9_setRank 74 = .ok (.bipush 31, 2) := by decide +kernel
theorem dX9_setRank_76 : decode cX9_setRank 76 = .ok (.iload_n 1, 1) := by decide +kernel
theorem dX9_setRank_77 : decode cX9_setRank 77 = .ok (.imul, 1) := by decide +kernel
theorem dX9_setRank_78 : decode cX9_setRank 78 = .ok (.iload_n 2, 1) := by decide +kernel
theorem dX9_setRank_79 : decode cX9_setRank 79 = .ok (.iadd, 1) := by decide +kernel
theorem dX9_setRank_80 : decode cX9_setRank 80 = .ok (.iload_n 3, 1) := by decide +kernel
theorem dX9_setRank_81 : decode cX9_setRank 81 = .ok (.iastore, 1) := by decide +kernel
theorem dX9_setRank_82 : decode cX9_setRank 82 = .ok (.iload 5, 2) := by decide +kernel
theorem dX9_setRank_84 : decode cX9_setRank 84 = .ok (.ireturn, 1) := by decide +kernel
set_option maxRecDepth 20000 in
theorem ggX9_setRates_X9_isWeek : GoodIn wsX9_setRates wsX9_isWeek := goodIn_r _ [6, 7, 8, 5, 9] (by decide +kernel) (by decide +kernel)
set_option maxRecDepth 20000 in
theorem gX9_setRates_X9_isWeek : GoodIn wsX9_setRates (va_wsS RX9 89 yX9_isWeek wsX9_isWeek) := goodIn_app (goodIn_of _ (by decide +kernel)) ggX9_setRates_X9_isWeek
set_option maxRecDepth 20000 in
theorem ggX9_setRates_X9_in : GoodIn wsX9_setRates wsX9_in := goodIn_r _ [9] (by decide +kernel) (by decide +kernel)
set_option maxRecDepth 20000 in
theorem gX9_setRates_X9_in : GoodIn wsX9_setRates (va_wsS RX9 78 yX9_in wsX9_in) := goodIn_app (goodIn_of _ (by decide +kernel)) ggX9_setRates_X9_in
set_option maxRecDepth 20000 in
theorem ggX9_setRates_X9_holds : GoodIn wsX9_setRates wsX9_holds := goodIn_r _ [13, 14, 18, 19, 20, 21, 22, 23, 24, 25, 26, 27, 28, 29, 30, 31, 32, 33, 34, 35, 36, 37, 38, 39, 40, 41, 42] (by decide +kernel) (by decide +kernel)
set_option maxRecDepth 20000 in
theorem gX9_setRates_X9_holds : GoodIn wsX9_setRates (wsV RX9 82 RX9 yX9_holds wsX9_holds) := goodIn_app (goodIn_of _ (by decide +kernel)) ggX9_setRates_X9_holds
set_option maxRecDepth 20000 in
theorem ggX9_setRates_X9_told : GoodIn wsX9_setRates wsX9_told := goodIn_r _ [17] (by decide +kernel) (by decide +kernel)
set_option maxRecDepth 20000 in
theorem gX9_setRates_X9_told : GoodIn wsX9_setRates (va_wsS RX9 92 yX9_told wsX9_told) := goodIn_app (goodIn_of _ (by decide +kernel)) ggX9_setRates_X9_told
theorem dX9_setRates_0 : decode cX9_setRates 0 = .ok (.iload_n 2, 1) := by decide +kernel
theorem dX9_setRates_1 : decode cX9_setRates 1 = .ok (.invokestatic 89, 3) := by decide +kernel
theorem dX9_setRates_4 : decode cX9_setRates 4 = .ok (.ifCond .eq 30, 3) := by decide +kernel
theorem dX9_setRates_7 : decode cX9_setRates 7 = .ok (.iload_n 3, 1) := by decide +kernel
theorem dX9_setRates_8 : decode cX9_setRates 8 = .ok (.iconst 0, 1) := by decide +kernel
theorem dX9_setRates_9 : decode cX9_setRates 9 = .ok (.sipush 10000, 3) := by decide +kernel
theorem dX9_setRates_12 : decode cX9_setRates 12 = .ok (.invokestatic 78, 3) := by decide +kernel
theorem dX9_setRates_15 : decode cX9_setRates 15 = .ok (.ifCond .eq 19, 3) := by decide +kernel
theorem dX9_setRates_18 : decode cX9_setRates 18 = .ok (.iload 4, 2) := by decide +kernel
theorem dX9_setRates_20 : decode cX9_setRates 20 = .ok (.iconst 0, 1) := by decide +kernel
theorem dX9_setRates_21 : decode cX9_setRates 21 = .ok (.sipush 10000, 3) := by decide +kernel
theorem dX9_setRates_24 : decode cX9_setRates 24 = .ok (.invokestatic 78, 3) := by decide +kernel
theorem dX9_setRates_27 : decode cX9_setRates 27 = .ok (.ifCond .eq 7, 3) := by decide +kernel
theorem dX9_setRates_30 : decode cX9_setRates 30 = .ok (.iconst 1, 1) := by decide +kernel
theorem dX9_setRates_31 : decode cX9_setRates 31 = .ok (.goto 4, 3) := by decide +kernel
theorem dX9_setRates_34 : decode cX9_setRates 34 = .ok (.iconst 0, 1) := by decide +kernel
theorem dX9_setRates_35 : decode cX9_setRates 35 = .ok (.istore 5, 2) := by decide +kernel
theorem dX9_setRates_37 : decode cX9_setRates 37 = .ok (.aload_n 0, 1) := by decide +kernel
theorem dX9_setRates_38 : decode cX9_setRates 38 = .ok (.iload_n 1, 1) := by decide +kernel
theorem dX9_setRates_39 : decode cX9_setRates 39 = .ok (.iconst 0, 1) := by decide +kernel
theorem dX9_setRates_40 : decode cX9_setRates 40 = .ok (.iconst 2, 1) := by decide +kernel
theorem dX9_setRates_41 : decode cX9_setRates 41 = .ok (.invokestatic 78, 3) := by decide +kernel
theorem dX9_setRates_44 : decode cX9_setRates 44 = .ok (.ifCond .ne 7, 3) := by decide +kernel
theorem dX9_setRates_47 : decode cX9_setRates 47 = .ok (.iconst 1, 1) := by decide +kernel
theorem dX9_setRates_48 : decode cX9_setRates 48 = .ok (.goto 13, 3) := by decide +kernel
theorem dX9_setRates_51 : decode cX9_setRates 51 = .ok (.iload 5, 2) := by decide +kernel
theorem dX9_setRates_53 : decode cX9_setRates 53 = .ok (.ifCond .eq 7, 3) := by decide +kernel
theorem dX9_setRates_56 : decode cX9_setRates 56 = .ok (.iconst 0, 1) := by decide +kernel
theorem dX9_setRates_57 : decode cX9_setRates 57 = .ok (.goto 4, 3) := by decide +kernel
theorem dX9_setRates_60 : decode cX9_setRates 60 = .ok (.iconst 2, 1) := by decide +kernel
theorem dX9_setRates_61 : decode cX9_setRates 61 = .ok (.invokevirtual 82, 3) := by decide +kernel
theorem dX9_setRates_64 : decode cX9_setRates 64 = .ok (.ifCond .ne 5, 3) := by decide +kernel
theorem dX9_setRates_67 : decode cX9_setRates 67 = .ok (.iconst 0, 1) := by decide +kernel
theorem dX9_setRates_68 : decode cX9_setRates 68 = .ok (.ireturn, 1) := by decide +kernel
theorem dX9_setRates_69 : decode cX9_setRates 69 = .ok (.aload_n 0, 1) := by decide +kernel
theorem dX9_setRates_70 : decode cX9_setRates 70 = .ok (.getfield 16, 3) := by decide +kernel
theorem dX9_setRates_73 : decode cX9_setRates 73 = .ok (.aload_n 0, 1) := by decide +kernel
theorem dX9_setRates_74 : decode cX9_setRates 74 = .ok (.getfield 16, 3) := by decide +kernel
theorem dX9_setRates_77 : decode cX9_setRates 77 = .ok (.iload_n 1, 1) := by decide +kernel
theorem dX9_setRates_78 : decode cX9_setRates 78 = .ok (.iload_n 2, 1) := by decide +kernel
theorem dX9_setRates_79 : decode cX9_setRates 79 = .ok (.invokestatic 92, 3) := by decide +kernel
theorem dX9_setRates_82 : decode cX9_setRates 82 = .ok (.iaload, 1) := by decide +kernel
theorem dX9_setRates_83 : decode cX9_setRates 83 = .ok (.istore 6, 2) := by decide +kernel
theorem dX9_setRates_85 : decode cX9_setRates 85 = .ok (.aload_n 0, 1) := by decide +kernel
theorem dX9_setRates_86 : decode cX9_setRates 86 = .ok (.getfield 16, 3) := by decide +kernel
theorem dX9_setRates_89 : decode cX9_setRates 89 = .ok (.bipush 31, 2) := by decide +kernel
theorem dX9_setRates_91 : decode cX9_setRates 91 = .ok (.iload_n 1, 1) := by decide +kernel
theorem dX9_setRates_92 : decode cX9_setRates 92 = .ok (.imul, 1) := by decide +kernel
theorem dX9_setRates_93 : decode cX9_setRates 93 = .ok (.iload_n 2, 1) := by decide +kernel
theorem dX9_setRates_94 : decode cX9_setRates 94 = .ok (.iadd, 1) := by decide +kernel
theorem dX9_setRates_95 : decode cX9_setRates 95 = .ok (.iload_n 3, 1) := by decide +kernel
theorem dX9_setRates_96 : decode cX9_setRates 96 = .ok (.iastore, 1) := by decide +kernel
theorem dX9_setRates_97 : decode cX9_setRates 97 = .ok (.aload_n 0, 1) := by decide +kernel
theorem dX9_setRates_98 : decode cX9_setRates 98 = .ok (.getfield 19, 3) := by decide +kernel
theorem dX9_setRates_101 : decode cX9_setRates 101 = .ok (.bipush 31, 2) := by decide +kernel
theorem dX9_setRates_103 : decode cX9_setRates 103 = .ok (.iload_n 1, 1) := by decide +kernel
theorem dX9_setRates_104 : decode cX9_setRates 104 = .ok (.imul, 1) := by decide +kernel
theorem dX9_setRates_105 : decode cX9_setRates 105 = .ok (.iload_n 2, 1) := by decide +kernel
theorem dX9_setRates_106 : decode cX9_setRates 106 = .ok (.iadd, 1) := by decide +kernel
theorem dX9_setRates_107 : decode cX9_setRates 107 = .ok (.iload 4, 2) := by decide +kernel
theorem dX9_setRates_109 : decode cX9_setRates 109 = .ok (.iastore, 1) := by decide +kernel
theorem dX9_setRates_110 : decode cX9_setRates 110 = .ok (.iload 6, 2) := by decide +kernel
theorem dX9_setRates_112 : decode cX9_setRates 112 = .ok (.ireturn, 1) := by decide +kernel
theorem dX9_counting_0 : decode cX9_counting 0 = .ok (.iconst 0, 1) := by decide +kernel
theorem dX9_counting_1 : decode cX9_counting 1 = .ok (.istore_n 2, 1) := by decide +kernel
theorem dX9_counting_2 : decode cX9_counting 2 = .ok (.iload_n 2, 1) := by decide +kernel
theorem dX9_counting_3 : decode cX9_counting 3 = .ok (.bipush 20, 2) := by decide +kernel
theorem dX9_counting_5 : decode cX9_counting 5 = .ok (.if_icmp .ge 24, 3) := by decide +kernel
theorem dX9_counting_8 : decode cX9_counting 8 = .ok (.aload_n 0, 1) := by decide +kernel
theorem dX9_counting_9 : decode cX9_counting 9 = .ok (.getfield 22, 3) := by decide +kernel
theorem dX9_counting_12 : decode cX9_counting 12 = .ok (.bipush 20, 2) := by decide +kernel
theorem dX9_counting_14 : decode cX9_counting 14 = .ok (.iload_n 1, 1) := by decide +kernel
theorem dX9_counting_15 : decode cX9_counting 15 = .ok (.imul, 1) := by decide +kernel
theorem dX9_counting_16 : decode cX9_counting 16 = .ok (.iload_n 2, 1) := by decide +kernel
theorem dX9_counting_17 : decode cX9_counting 17 = .ok (.iadd, 1) := by decide +kernel
theorem dX9_counting_18 : decode cX9_counting 18 = .ok (.iaload, 1) := by decide +kernel
theorem dX9_counting_19 : decode cX9_counting 19 = .ok (.iconst (-1), 1) := by decide +kernel
theorem dX9_counting_20 : decode cX9_counting 20 = .ok (.if_icmp .eq 9, 3) := by decide +kernel
theorem dX9_counting_23 : decode cX9_counting 23 = .ok (.iinc 2 1, 3) := by decide +kernel
theorem dX9_counting_26 : decode cX9_counting 26 = .ok (.goto (-24), 3) := by decide +kernel
theorem dX9_counting_29 : decode cX9_counting 29 = .ok (.iload_n 2, 1) := by decide +kernel
theorem dX9_counting_30 : decode cX9_counting 30 = .ok (.ireturn, 1) := by decide +kernel
set_option maxRecDepth 20000 in
theorem ggX9_come_X9_in : GoodIn wsX9_come wsX9_in := goodIn_r _ [7] (by decide +kernel) (by decide +kernel)
set_option maxRecDepth 20000 in
theorem gX9_come_X9_in : GoodIn wsX9_come (va_wsS RX9 78 yX9_in wsX9_in) := goodIn_app (goodIn_of _ (by decide +kernel)) ggX9_come_X9_in
set_option maxRecDepth 20000 in
theorem ggX9_come_X9_isWeek : GoodIn wsX9_come wsX9_isWeek := goodIn_r _ [10, 4, 5, 6, 7] (by decide +kernel) (by decide +kernel)
set_option maxRecDepth 20000 in
theorem gX9_come_X9_isWeek : GoodIn wsX9_come (va_wsS RX9 89 yX9_isWeek wsX9_isWeek) := goodIn_app (goodIn_of _ (by decide +kernel)) ggX9_come_X9_isWeek
set_option maxRecDepth 20000 in
theorem ggX9_come_X9_areHours : GoodIn wsX9_come wsX9_areHours := goodIn_r _ [13, 4, 5, 6, 7] (by decide +kernel) (by decide +kernel)
set_option maxRecDepth 20000 in
theorem gX9_come_X9_areHours : GoodIn wsX9_come (va_wsS RX9 96 yX9_areHours wsX9_areHours) := goodIn_app (goodIn_of _ (by decide +kernel)) ggX9_come_X9_areHours
set_option maxRecDepth 20000 in
theorem ggX9_come_X9_isWorker : GoodIn wsX9_come wsX9_isWorker := goodIn_r _ [17, 18, 4, 5, 6, 7, 28, 29, 30, 31, 32, 33, 34, 35, 36, 37, 38, 39, 40, 41, 42, 43, 44, 45, 46, 47, 48, 49, 50, 51, 52] (by decide +kernel) (by decide +kernel)
set_option maxRecDepth 20000 in
theorem gX9_come_X9_isWorker : GoodIn wsX9_come (wsV RX9 86 RX9 yX9_isWorker wsX9_isWorker) := goodIn_app (goodIn_of _ (by decide +kernel)) ggX9_come_X9_isWorker
set_option maxRecDepth 20000 in
theorem ggX9_come_X9_holds : GoodIn wsX9_come wsX9_holds := goodIn_r _ [22, 23, 28, 29, 30, 31, 32, 33, 34, 35, 36, 37, 38, 39, 40, 41, 42, 43, 44, 45, 46, 47, 48, 49, 50, 51, 52] (by decide +kernel) (by decide +kernel)
set_option maxRecDepth 20000 in
theorem gX9_come_X9_holds : GoodIn wsX9_come (wsV RX9 82 RX9 yX9_holds wsX9_holds) := goodIn_app (goodIn_of _ (by decide +kernel)) ggX9_come_X9_holds
set_option maxRecDepth 20000 in
theorem ggX9_come_X9_counting : GoodIn wsX9_come wsX9_counting := goodIn_r _ [27, 1, 28, 29, 30, 31, 32, 33, 34, 35, 36, 37, 38, 39, 40, 41, 42, 43, 44, 45, 46, 47, 48, 49, 50, 51, 52] (by decide +kernel) (by decide +kernel)
set_option maxRecDepth 20000 in
theorem gX9_come_X9_counting : GoodIn wsX9_come (wsV RX9 100 RX9 yX9_counting wsX9_counting) := goodIn_app (goodIn_of _ (by decide +kernel)) ggX9_come_X9_counting
theorem dX9_come_0 : decode cX9_come 0 = .ok (.iload_n 2, 1) := by decide +kernel
theorem dX9_come_1 : decode cX9_come 1 = .ok (.iconst 0, 1) := by decide +kernel
theorem dX9_come_2 : decode cX9_come 2 = .ok (.bipush 19, 2) := by decide +kernel
theorem dX9_come_4 : decode cX9_come 4 = .ok (.invokestatic 78, 3) := by decide +kernel
theorem dX9_come_7 : decode cX9_come 7 = .ok (.ifCond .eq 24, 3) := by decide +kernel
theorem dX9_come_10 : decode cX9_come 10 = .ok (.iload_n 3, 1) := by decide +kernel
theorem dX9_come_11 : decode cX9_come 11 = .ok (.invokestatic 89, 3) := by decide +kernel
theorem dX9_come_14 : decode cX9_come 14 = .ok (.ifCond .eq 17, 3) := by decide +kernel
theorem dX9_come_17 : decode cX9_come 17 = .ok (.iload 4, 2) := by decide +kernel
theorem dX9_come_19 : decode cX9_come 19 = .ok (.iload 5, 2) := by decide +kernel
theorem dX9_come_21 : decode cX9_come 21 = .ok (.invokestatic 96, 3) := by decide +kernel
theorem dX9_come_24 : decode cX9_come 24 = .ok (.ifCond .eq 7, 3) := by decide +kernel
theorem dX9_come_27 : decode cX9_come 27 = .ok (.iconst 1, 1) := by decide +kernel
theorem dX9_come_28 : decode cX9_come 28 = .ok (.goto 4, 3) := by decide +kernel
theorem dX9_come_31 : decode cX9_come 31 = .ok (.iconst 0, 1) := by decide +kernel
theorem dX9_come_32 : decode cX9_come 32 = .ok (.istore 6, 2) := by decide +kernel
theorem dX9_come_34 : decode cX9_come 34 = .ok (.aload_n 0, 1) := by decide +kernel
theorem dX9_come_35 : decode cX9_come 35 = .ok (.aload_n 0, 1) := by decide +kernel
theorem dX9_come_36 : decode cX9_come 36 = .ok (.iload_n 1, 1) := by decide +kernel
theorem dX9_come_37 : decode cX9_come 37 = .ok (.invokevirtual 86, 3) := by decide +kernel
theorem dX9_come_40 : decode cX9_come 40 = .ok (.ifCond .ne 7, 3) := by decide +kernel
theorem dX9_come_43 : decode cX9_come 43 = .ok (.iconst 1, 1) := by decide +kernel
theorem dX9_come_44 : decode cX9_come 44 = .ok (.goto 13, 3) := by decide +kernel
theorem dX9_come_47 : decode cX9_come 47 = .ok (.iload 6, 2) := by decide +kernel
theorem dX9_come_49 : decode cX9_come 49 = .ok (.ifCond .eq 7, 3) := by decide +kernel
theorem dX9_come_52 : decode cX9_come 52 = .ok (.iconst 0, 1) := by decide +kernel
theorem dX9_come_53 : decode cX9_come 53 = .ok (.goto 4, 3) := by decide +kernel
theorem dX9_come_56 : decode cX9_come 56 = .ok (.iconst 2, 1) := by decide +kernel
theorem dX9_come_57 : decode cX9_come 57 = .ok (.invokevirtual 82, 3) := by decide +kernel
theorem dX9_come_60 : decode cX9_come 60 = .ok (.ifCond .ne 5, 3) := by decide +kernel
theorem dX9_come_63 : decode cX9_come 63 = .ok (.iconst 0, 1) := by decide +kernel
theorem dX9_come_64 : decode cX9_come 64 = .ok (.ireturn, 1) := by decide +kernel
theorem dX9_come_65 : decode cX9_come 65 = .ok (.bipush 20, 2) := by decide +kernel
theorem dX9_come_67 : decode cX9_come 67 = .ok (.iload_n 1, 1) := by decide +kernel
theorem dX9_come_68 : decode cX9_come 68 = .ok (.imul, 1) := by decide +kernel
theorem dX9_come_69 : decode cX9_come 69 = .ok (.iload_n 2, 1) := by decide +kernel
theorem dX9_come_70 : decode cX9_come 70 = .ok (.iadd, 1) := by decide +kernel
theorem dX9_come_71 : decode cX9_come 71 = .ok (.istore 7, 2) := by decide +kernel
theorem dX9_come_73 : decode cX9_come 73 = .ok (.aload_n 0, 1) := by decide +kernel
theorem dX9_come_74 : decode cX9_come 74 = .ok (.getfield 22, 3) := by decide +kernel
theorem dX9_come_77 : decode cX9_come 77 = .ok (.iload 7, 2) := by decide +kernel
theorem dX9_come_79 : decode cX9_come 79 = .ok (.iaload, 1) := by decide +kernel
theorem dX9_come_80 : decode cX9_come 80 = .ok (.iconst (-1), 1) := by decide +kernel
theorem dX9_come_81 : decode cX9_come 81 = .ok (.if_icmp .ne 29, 3) := by decide +kernel
theorem dX9_come_84 : decode cX9_come 84 = .ok (.aload_n 0, 1) := by decide +kernel
theorem dX9_come_85 : decode cX9_come 85 = .ok (.getfield 22, 3) := by decide +kernel
theorem dX9_come_88 : decode cX9_come 88 = .ok (.iload 7, 2) := by decide +kernel
theorem dX9_come_90 : decode cX9_come 90 = .ok (.iload_n 3, 1) := by decide +kernel
theorem dX9_come_91 : decode cX9_come 91 = .ok (.iastore, 1) := by decide +kernel
theorem dX9_come_92 : decode cX9_come 92 = .ok (.aload_n 0, 1) := by decide +kernel
theorem dX9_come_93 : decode cX9_come 93 = .ok (.getfield 25, 3) := by decide +kernel
theorem dX9_come_96 : decode cX9_come 96 = .ok (.iload 7, 2) := by decide +kernel
theorem dX9_come_98 : decode cX9_come 98 = .ok (.iload 4, 2) := by decide +kernel
theorem dX9_come_100 : decode cX9_come 100 = .ok (.iastore, 1) := by decide +kernel
theorem dX9_come_101 : decode cX9_come 101 = .ok (.aload_n 0, 1) := by decide +kernel
theorem dX9_come_102 : decode cX9_come 102 = .ok (.getfield 28, 3) := by decide +kernel
theorem dX9_come_105 : decode cX9_come 105 = .ok (.iload 7, 2) := by decide +kernel
theorem dX9_come_107 : decode cX9_come 107 = .ok (.iload 5, 2) := by decide +kernel
theorem dX9_come_109 : decode cX9_come 109 = .ok (.iastore, 1) := by decide +kernel
theorem dX9_come_110 : decode cX9_come 110 = .ok (.aload_n 0, 1) := by decide +kernel
theorem dX9_come_111 : decode cX9_come 111 = .ok (.iload_n 1, 1) := by decide +kernel
theorem dX9_come_112 : decode cX9_come 112 = .ok (.invokevirtual 100, 3) := by decide +kernel
theorem dX9_come_115 : decode cX9_come 115 = .ok (.ireturn, 1) := by decide +kernel
set_option maxRecDepth 20000 in
theorem ggX9_correct_X9_isWorker : GoodIn wsX9_correct wsX9_isWorker := goodIn_r _ [8, 9, 10, 11, 7, 12, 21, 22, 23, 24, 25, 26, 27, 28, 29, 30, 31, 32, 33, 34, 35, 36, 37, 38, 39, 40, 41, 42, 43, 44, 45] (by decide +kernel) (by decide +kernel)
set_option maxRecDepth 20000 in
theorem gX9_correct_X9_isWorker : GoodIn wsX9_correct (wsV RX9 86 RX9 yX9_isWorker wsX9_isWorker) := goodIn_app (goodIn_of _ (by decide +kernel)) ggX9_correct_X9_isWorker
set_option maxRecDepth 20000 in
theorem ggX9_correct_X9_in : GoodIn wsX9_correct wsX9_in := goodIn_r _ [12] (by decide +kernel) (by decide +kernel)
set_option maxRecDepth 20000 in
theorem gX9_correct_X9_in : GoodIn wsX9_correct (va_wsS RX9 78 yX9_in wsX9_in) := goodIn_app (goodIn_of _ (by decide +kernel)) ggX9_correct_X9_in
set_option maxRecDepth 20000 in
theorem ggX9_correct_X9_areHours : GoodIn wsX9_correct wsX9_areHours := goodIn_r _ [15, 10, 11, 7, 12] (by decide +kernel) (by decide +kernel)
set_option maxRecDepth 20000 in
theorem gX9_correct_X9_areHours : GoodIn wsX9_correct (va_wsS RX9 96 yX9_areHours wsX9_areHours) := goodIn_app (goodIn_of _ (by decide +kernel)) ggX9_correct_X9_areHours
set_option maxRecDepth 20000 in
theorem ggX9_correct_X9_holds : GoodIn wsX9_correct wsX9_holds := goodIn_r _ [19, 20, 21, 22, 23, 24, 25, 26, 27, 28, 29, 30, 31, 32, 33, 34, 35, 36, 37, 38, 39, 40, 41, 42, 43, 44, 45] (by decide +kernel) (by decide +kernel)
set_option maxRecDepth 20000 in
theorem gX9_correct_X9_holds : GoodIn wsX9_correct (wsV RX9 82 RX9 yX9_holds wsX9_holds) := goodIn_app (goodIn_of _ (by decide +kernel)) ggX9_correct_X9_holds
theorem dX9_correct_0 : decode cX9_correct 0 = .ok (.aload_n 0, 1) := by decide +kernel
theorem dX9_correct_1 : decode cX9_correct 1 = .ok (.iload_n 1, 1) := by decide +kernel
theorem dX9_correct_2 : decode cX9_correct 2 = .ok (.invokevirtual 86, 3) := by decide +kernel
theorem dX9_correct_5 : decode cX9_correct 5 = .ok (.ifCond .eq 32, 3) := by decide +kernel
theorem dX9_correct_8 : decode cX9_correct 8 = .ok (.iload_n 2, 1) := by decide +kernel
theorem dX9_correct_9 : decode cX9_correct 9 = .ok (.iconst 0, 1) := by decide +kernel
theorem dX9_correct_10 : decode cX9_correct 10 = .ok (.bipush 19, 2) := by decide +kernel
theorem dX9_correct_12 : decode cX9_correct 12 = .ok (.invokestatic 78, 3) := by decide +kernel
theorem dX9_correct_15 : decode cX9_correct 15 = .ok (.ifCond .eq 22, 3) := by decide +kernel
theorem dX9_correct_18 : decode cX9_correct 18 = .ok (.aload_n 0, 1) := by decide +kernel
theorem dX9_correct_19 : decode cX9_correct 19 = .ok (.getfield 22, 3) := by decide +kernel
theorem dX9_correct_22 : decode cX9_correct 22 = .ok (.bipush 20, 2) := by decide +kernel
theorem dX9_correct_24 : decode cX9_correct 24 = .ok (.iload_n 1, 1) := by decide +kernel
theorem dX9_correct_25 : decode cX9_correct 25 = .ok (.imul, 1) := by decide +kernel
theorem dX9_correct_26 : decode cX9_correct 26 = .ok (.iload_n 2, 1) := by decide +kernel
theorem dX9_correct_27 : decode cX9_correct 27 = .ok (.iadd, 1) := by decide +kernel
theorem dX9_correct_28 : decode cX9_correct 28 = .ok (.iaload, 1) := by decide +kernel
theorem dX9_correct_29 : decode cX9_correct 29 = .ok (.iconst (-1), 1) := by decide +kernel
theorem dX9_correct_30 : decode cX9_correct 30 = .ok (.if_icmp .eq 7, 3) := by decide +kernel
theorem dX9_correct_33 : decode cX9_correct 33 = .ok (.iconst 1, 1) := by decide +kernel
theorem dX9_correct_34 : decode cX9_correct 34 = .ok (.goto 4, 3) := by decide +kernel
theorem dX9_correct_37 : decode cX9_correct 37 = .ok (.iconst 0, 1) := by decide +kernel
theorem dX9_correct_38 : decode cX9_correct 38 = .ok (.istore 5, 2) := by decide +kernel
theorem dX9_correct_40 : decode cX9_correct 40 = .ok (.aload_n 0, 1) := by decide +kernel
theorem dX9_correct_41 : decode cX9_correct 41 = .ok (.iload 5, 2) := by decide +kernel
theorem dX9_correct_43 : decode cX9_correct 43 = .ok (.ifCond .ne 7, 3) := by decide +kernel
theorem dX9_correct_46 : decode cX9_correct 46 = .ok (.iconst 1, 1) := by decide +kernel
theorem dX9_correct_47 : decode cX9_correct 47 = .ok (.goto 17, 3) := by decide +kernel
theorem dX9_correct_50 : decode cX9_correct 50 = .ok (.iload_n 3, 1) := by decide +kernel
theorem dX9_correct_51 : decode cX9_correct 51 = .ok (.iload 4, 2) := by decide +kernel
theorem dX9_correct_53 : decode cX9_correct 53 = .ok (.invokestatic 96, 3) := by decide +kernel
theorem dX9_correct_56 : decode cX9_correct 56 = .ok (.ifCond .eq 7, 3) := by decide +kernel
theorem dX9_correct_59 : decode cX9_correct 59 = .ok (.iconst 0, 1) := by decide +kernel
theorem dX9_correct_60 : decode cX9_correct 60 = .ok (.goto 4, 3) := by decide +kernel
theorem dX9_correct_63 : decode cX9_correct 63 = .ok (.iconst 2, 1) := by decide +kernel
theorem dX9_correct_64 : decode cX9_correct 64 = .ok (.invokevirtual 82, 3) := by decide +kernel
theorem dX9_correct_67 : decode cX9_correct 67 = .ok (.ifCond .ne 5, 3) := by decide +kernel
theorem dX9_correct_70 : decode cX9_correct 70 = .ok (.iconst 0, 1) := by decide +kernel
theorem dX9_correct_71 : decode cX9_correct 71 = .ok (.ireturn, 1) := by decide +kernel
theorem dX9_correct_72 : decode cX9_correct 72 = .ok (.bipush 20, 2) := by decide +kernel
theorem dX9_correct_74 : decode cX9_correct 74 = .ok (.iload_n 1, 1) := by decide +kernel
theorem dX9_correct_75 : decode cX9_correct 75 = .ok (.imul, 1) := by decide +kernel
theorem dX9_correct_76 : decode cX9_correct 76 = .ok (.iload_n 2, 1) := by decide +kernel
theorem dX9_correct_77 : decode cX9_correct 77 = .ok (.iadd, 1) := by decide +kernel
theorem dX9_correct_78 : decode cX9_correct 78 = .ok (.istore 6, 2) := by decide +kernel
theorem dX9_correct_80 : decode cX9_correct 80 = .ok (.aload_n 0, 1) := by decide +kernel
theorem dX9_correct_81 : decode cX9_correct 81 = .ok (.getfield 25, 3) := by decide +kernel
theorem dX9_correct_84 : decode cX9_correct 84 = .ok (.iload 6, 2) := by decide +kernel
theorem dX9_correct_86 : decode cX9_correct 86 = .ok (.iaload, 1) := by decide +kernel
theorem dX9_correct_87 : decode cX9_correct 87 = .ok (.aload_n 0, 1) := by decide +kernel
theorem dX9_correct_88 : decode cX9_correct 88 = .ok (.getfield 28, 3) := by decide +kernel
theorem dX9_correct_91 : decode cX9_correct 91 = .ok (.iload 6, 2) := by decide +kernel
theorem dX9_correct_93 : decode cX9_correct 93 = .ok (.iaload, 1) := by decide +kernel
theorem dX9_correct_94 : decode cX9_correct 94 = .ok (.iadd, 1) := by decide +kernel
theorem dX9_correct_95 : decode cX9_correct 95 = .ok (.istore 7, 2) := by decide +kernel
theorem dX9_correct_97 : decode cX9_correct 97 = .ok (.aload_n 0, 1) := by decide +kernel
theorem dX9_correct_98 : decode cX9_correct 98 = .ok (.getfield 25, 3) := by decide +kernel
theorem dX9_correct_101 : decode cX9_correct 101 = .ok (.iload 6, 2) := by decide +kernel
theorem dX9_correct_103 : decode cX9_correct 103 = .ok (.iload_n 3, 1) := by decide +kernel
theorem dX9_correct_104 : decode cX9_correct 104 = .ok (.iastore, 1) := by decide +kernel
theorem dX9_correct_105 : decode cX9_correct 105 = .ok (.aload_n 0, 1) := by decide +kernel
theorem dX9_correct_106 : decode cX9_correct 106 = .ok (.getfield 28, 3) := by decide +kernel
theorem dX9_correct_109 : decode cX9_correct 109 = .ok (.iload 6, 2) := by decide +kernel
theorem dX9_correct_111 : decode cX9_correct 111 = .ok (.iload 4, 2) := by decide +kernel
theorem dX9_correct_113 : decode cX9_correct 113 = .ok (.iastore, 1) := by decide +kernel
theorem dX9_correct_114 : decode cX9_correct 114 = .ok (.iload 7, 2) := by decide +kernel
theorem dX9_correct_116 : decode cX9_correct 116 = .ok (.ireturn, 1) := by decide +kernel
set_option maxRecDepth 20000 in
theorem ggX9_acknowledged_X9_isWorker : GoodIn wsX9_acknowledged wsX9_isWorker := goodIn_r _ [5, 6, 7, 8, 4, 9, 20, 21, 22, 23, 24, 25, 26, 27, 28, 29, 30, 31, 32, 33, 34, 35, 36, 37, 38, 39, 40, 41, 42, 43, 44] (by decide +kernel) (by decide +kernel)
set_option maxRecDepth 20000 in
theorem gX9_acknowledged_X9_isWorker : GoodIn wsX9_acknowledged (wsV RX9 86 RX9 yX9_isWorker wsX9_isWorker) := goodIn_app (goodIn_of _ (by decide +kernel)) ggX9_acknowledged_X9_isWorker
set_option maxRecDepth 20000 in
theorem ggX9_acknowledged_X9_holds : GoodIn wsX9_acknowledged wsX9_holds := goodIn_r _ [13, 14, 20, 21, 22, 23, 24, 25, 26, 27, 28, 29, 30, 31, 32, 33, 34, 35, 36, 37, 38, 39, 40, 41, 42, 43, 44] (by decide +kernel) (by decide +kernel)
set_option maxRecDepth 20000 in
theorem gX9_acknowledged_X9_holds : GoodIn wsX9_acknowledged (wsV RX9 82 RX9 yX9_holds wsX9_holds) := goodIn_app (goodIn_of _ (by decide +kernel)) ggX9_acknowledged_X9_holds
set_option maxRecDepth 20000 in
theorem ggX9_acknowledged_X9_counting : GoodIn wsX9_acknowledged wsX9_counting := goodIn_r _ [18, 19, 20, 21, 22, 23, 24, 25, 26, 27, 28, 29, 30, 31, 32, 33, 34, 35, 36, 37, 38, 39, 40, 41, 42, 43, 44] (by decide +kernel) (by decide +kernel)
set_option maxRecDepth 20000 in
theorem gX9_acknowledged_X9_counting : GoodIn wsX9_acknowledged (wsV RX9 100 RX9 yX9_counting wsX9_counting) := goodIn_app (goodIn_of _ (by decide +kernel)) ggX9_acknowledged_X9_counting
theorem dX9_acknowledged_0 : decode cX9_acknowledged 0 = .ok (.aload_n 0, 1) := by decide +kernel
theorem dX9_acknowledged_1 : decode cX9_acknowledged 1 = .ok (.aload_n 0, 1) := by decide +kernel
theorem dX9_acknowledged_2 : decode cX9_acknowledged 2 = .ok (.iload_n 1, 1) := by decide +kernel
theorem dX9_acknowledged_3 : decode cX9_acknowledged 3 = .ok (.invokevirtual 86, 3) := by decide +kernel
theorem dX9_acknowledged_6 : decode cX9_acknowledged 6 = .ok (.ifCond .eq 7, 3) := by decide +kernel
theorem dX9_acknowledged_9 : decode cX9_acknowledged 9 = .ok (.iconst 0, 1) := by decide +kernel
theorem dX9_acknowledged_10 : decode cX9_acknowledged 10 = .ok (.goto 4, 3) := by decide +kernel
theorem dX9_acknowledged_13 : decode cX9_acknowledged 13 = .ok (.iconst 1, 1) := by decide +kernel
theorem dX9_acknowledged_14 : decode cX9_acknowledged 14 = .ok (.invokevirtual 82, 3) := by decide +kernel
theorem dX9_acknowledged_17 : decode cX9_acknowledged 17 = .ok (.ifCond .eq 11, 3) := by decide +kernel
theorem dX9_acknowledged_20 : decode cX9_acknowledged 20 = .ok (.aload_n 0, 1) := by decide +kernel
theorem dX9_acknowledged_21 : decode cX9_acknowledged 21 = .ok (.iload_n 1, 1) := by decide +kernel
theorem dX9_acknowledged_22 : decode cX9_acknowledged 22 = .ok (.invokevirtual 100, 3) := by decide +kernel
theorem dX9_acknowledged_25 : decode cX9_acknowledged 25 = .ok (.goto 4, 3) := by decide +kernel
theorem dX9_acknowledged_28 : decode cX9_acknowledged 28 = .ok (.iconst 0, 1) := by decide +kernel
theorem dX9_acknowledged_29 : decode cX9_acknowledged 29 = .ok (.ireturn, 1) := by decide +kernel
set_option maxRecDepth 20000 in
theorem ggX9_dueFor_X9_told : GoodIn wsX9_dueFor wsX9_told := goodIn_r _ [10] (by decide +kernel) (by decide +kernel)
set_option maxRecDepth 20000 in
theorem gX9_dueFor_X9_told : GoodIn wsX9_dueFor (va_wsS RX9 92 yX9_told wsX9_told) := goodIn_app (goodIn_of _ (by decide +kernel)) ggX9_dueFor_X9_told
set_option maxRecDepth 20000 in
theorem ggX9_dueFor_X9_counting : GoodIn wsX9_dueFor wsX9_counting := goodIn_r _ [14, 3, 15, 16, 17, 18, 19, 20, 21, 22, 23, 24, 25, 26, 27, 28, 29, 30, 31, 32, 33, 34, 35, 36, 37, 38, 39] (by decide +kernel) (by decide +kernel)
set_option maxRecDepth 20000 in
theorem gX9_dueFor_X9_counting : GoodIn wsX9_dueFor (wsV RX9 100 RX9 yX9_counting wsX9_counting) := goodIn_app (goodIn_of _ (by decide +kernel)) ggX9_dueFor_X9_counting
theorem dX9_dueFor_0 : decode cX9_dueFor 0 = .ok (.aload_n 0, 1) := by decide +kernel
theorem dX9_dueFor_1 : decode cX9_dueFor 1 = .ok (.getfield 13, 3) := by decide +kernel
theorem dX9_dueFor_4 : decode cX9_dueFor 4 = .ok (.aload_n 0, 1) := by decide +kernel
theorem dX9_dueFor_5 : decode cX9_dueFor 5 = .ok (.getfield 13, 3) := by decide +kernel
theorem dX9_dueFor_8 : decode cX9_dueFor 8 = .ok (.iload_n 1, 1) := by decide +kernel
theorem dX9_dueFor_9 : decode cX9_dueFor 9 = .ok (.iload_n 2, 1) := by decide +kernel
theorem dX9_dueFor_10 : decode cX9_dueFor 10 = .ok (.invokestatic 92, 3) := by decide +kernel
theorem dX9_dueFor_13 : decode cX9_dueFor 13 = .ok (.iaload, 1) := by decide +kernel
theorem dX9_dueFor_14 : decode cX9_dueFor 14 = .ok (.istore_n 3, 1) := by decide +kernel
theorem dX9_dueFor_15 : decode cX9_dueFor 15 = .ok (.aload_n 0, 1) := by decide +kernel
theorem dX9_dueFor_16 : decode cX9_dueFor 16 = .ok (.getfield 16, 3) := by decide +kernel
theorem dX9_dueFor_19 : decode cX9_dueFor 19 = .ok (.iload_n 3, 1) := by decide +kernel
theorem dX9_dueFor_20 : decode cX9_dueFor 20 = .ok (.iload_n 2, 1) := by decide +kernel
theorem dX9_dueFor_21 : decode cX9_dueFor 21 = .ok (.invokestatic 92, 3) := by decide +kernel
theorem dX9_dueFor_24 : decode cX9_dueFor 24 = .ok (.istore 4, 2) := by decide +kernel
theorem dX9_dueFor_26 : decode cX9_dueFor 26 = .ok (.iconst 0, 1) := by decide +kernel
theorem dX9_dueFor_27 : decode cX9_dueFor 27 = .ok (.istore 5, 2) := by decide +kernel
theorem dX9_dueFor_29 : decode cX9_dueFor 29 = .ok (.iconst 0, 1) := by decide +kernel
theorem dX9_dueFor_30 : decode cX9_dueFor 30 = .ok (.istore 6, 2) := by decide +kernel
theorem dX9_dueFor_32 : decode cX9_dueFor 32 = .ok (.iload 6, 2) := by decide +kernel
theorem dX9_dueFor_34 : decode cX9_dueFor 34 = .ok (.aload_n 0, 1) := by decide +kernel
theorem dX9_dueFor_35 : decode cX9_dueFor 35 = .ok (.iload_n 1, 1) := by decide +kernel
theorem dX9_dueFor_36 : decode cX9_dueFor 36 = .ok (.invokevirtual 100, 3) := by decide +kernel
theorem dX9_dueFor_39 : decode cX9_dueFor 39 = .ok (.if_icmp .ge 69, 3) := by decide +kernel
theorem dX9_dueFor_42 : decode cX9_dueFor 42 = .ok (.bipush 20, 2) := by decide +kernel
theorem dX9_dueFor_44 : decode cX9_dueFor 44 = .ok (.iload_n 1, 1) := by decide +kernel
theorem dX9_dueFor_45 : decode cX9_dueFor 45 = .ok (.imul, 1) := by decide +kernel
theorem dX9_dueFor_46 : decode cX9_dueFor 46 = .ok (.iload 6, 2) := by decide +kernel
theorem dX9_dueFor_48 : decode cX9_dueFor 48 = .ok (.iadd, 1) := by decide +kernel
theorem dX9_dueFor_49 : decode cX9_dueFor 49 = .ok (.istore 7, 2) := by decide +kernel
theorem dX9_dueFor_51 : decode cX9_dueFor 51 = .ok (.iload 5, 2) := by decide +kernel
theorem dX9_dueFor_53 : decode cX9_dueFor 53 = .ok (.aload_n 0, 1) := by decide +kernel
theorem dX9_dueFor_54 : decode cX9_dueFor 54 = .ok (.getfield 22, 3) := by decide +kernel
theorem dX9_dueFor_57 : decode cX9_dueFor 57 = .ok (.iload 7, 2) := by decide +kernel
theorem dX9_dueFor_59 : decode cX9_dueFor 59 = .ok (.iaload, 1) := by decide +kernel
theorem dX9_dueFor_60 : decode cX9_dueFor 60 = .ok (.iload_n 2, 1) := by decide +kernel
theorem dX9_dueFor_61 : decode cX9_dueFor 61 = .ok (.if_icmp .ne 37, 3) := by decide +kernel
theorem dX9_dueFor_64 : decode cX9_dueFor 64 = .ok (.aload_n 0, 1) := by decide +kernel
theorem dX9_dueFor_65 : decode cX9_dueFor 65 = .ok (.getfield 25, 3) := by decide +kernel
theorem dX9_dueFor_68 : decode cX9_dueFor 68 = .ok (.iload 7, 2) := by decide +kernel
theorem dX9_dueFor_70 : decode cX9_dueFor 70 = .ok (.iaload, 1) := by decide +kernel
theorem dX9_dueFor_71 : decode cX9_dueFor 71 = .ok (.aload_n 0, 1) := by decide +kernel
theorem dX9_dueFor_72 : decode cX9_dueFor 72 = .ok (.getfield 16, 3) := by decide +kernel
theorem dX9_dueFor_75 : decode cX9_dueFor 75 = .ok (.iload 4, 2) := by decide +kernel
theorem dX9_dueFor_77 : decode cX9_dueFor 77 = .ok (.iaload, 1) := by decide +kernel
theorem dX9_dueFor_78 : decode cX9_dueFor 78 = .ok (.imul, 1) := by decide +kernel
theorem dX9_dueFor_79 : decode cX9_dueFor 79 = .ok (.aload_n 0, 1) := by decide +kernel
theorem dX9_dueFor_80 : decode cX9_dueFor 80 = .ok (.getfield 28, 3) := by decide +kernel
theorem dX9_dueFor_83 : decode cX9_dueFor 83 = .ok (.iload 7, 2) := by decide +kernel
theorem dX9_dueFor_85 : decode cX9_dueFor 85 = .ok (.iaload, 1) := by decide +kernel
theorem dX9_dueFor_86 : decode cX9_dueFor 86 = .ok (.aload_n 0, 1) := by decide +kernel
theorem dX9_dueFor_87 : decode cX9_dueFor 87 = .ok (.getfield 19, 3) := by decide +kernel
theorem dX9_dueFor_90 : decode cX9_dueFor 90 = .ok (.iload 4, 2) := by decide +kernel
theorem dX9_dueFor_92 : decode cX9_dueFor 92 = .ok (.iaload, 1) := by decide +kernel
theorem dX9_dueFor_93 : decode cX9_dueFor 93 = .ok (.imul, 1) := by decide +kernel
theorem dX9_dueFor_94 : decode cX9_dueFor 94 = .ok (.iadd, 1) := by decide +kernel
theorem dX9_dueFor_95 : decode cX9_dueFor 95 = .ok (.goto 4, 3) := by decide +kernel
theorem dX9_dueFor_98 : decode cX9_dueFor 98 = .ok (.iconst 0, 1) := by decide +kernel
theorem dX9_dueFor_99 : decode cX9_dueFor 99 = .ok (.iadd, 1) := by decide +kernel
theorem dX9_dueFor_100 : decode cX9_dueFor 100 = .ok (.istore 5, 2) := by decide +kernel
theorem dX9_dueFor_102 : decode cX9_dueFor 102 = .ok (.iinc 6 1, 3) := by decide +kernel
theorem dX9_dueFor_105 : decode cX9_dueFor 105 = .ok (.goto (-73), 3) := by decide +kernel
theorem dX9_dueFor_108 : decode cX9_dueFor 108 = .ok (.iload 5, 2) := by decide +kernel
theorem dX9_dueFor_110 : decode cX9_dueFor 110 = .ok (.ireturn, 1) := by decide +kernel
set_option maxRecDepth 20000 in
theorem ggX9_due_X9_isWorker : GoodIn wsX9_due wsX9_isWorker := goodIn_r _ [5, 6, 7, 8, 4, 9, 35, 36, 37, 38, 39, 40, 41, 42, 43, 44, 45, 46, 47, 48, 49, 50, 51, 52, 53, 54, 55, 56, 57, 58, 59] (by decide +kernel) (by decide +kernel)
set_option maxRecDepth 20000 in
theorem gX9_due_X9_isWorker : GoodIn wsX9_due (wsV RX9 86 RX9 yX9_isWorker wsX9_isWorker) := goodIn_app (goodIn_of _ (by decide +kernel)) ggX9_due_X9_isWorker
set_option maxRecDepth 20000 in
theorem ggX9_due_X9_isWeek : GoodIn wsX9_due wsX9_isWeek := goodIn_r _ [12, 7, 8, 4, 9] (by decide +kernel) (by decide +kernel)
set_option maxRecDepth 20000 in
theorem gX9_due_X9_isWeek : GoodIn wsX9_due (va_wsS RX9 89 yX9_isWeek wsX9_isWeek) := goodIn_app (goodIn_of _ (by decide +kernel)) ggX9_due_X9_isWeek
set_option maxRecDepth 20000 in
theorem ggX9_due_X9_holds : GoodIn wsX9_due wsX9_holds := goodIn_r _ [16, 17, 35, 36, 37, 38, 39, 40, 41, 42, 43, 44, 45, 46, 47, 48, 49, 50, 51, 52, 53, 54, 55, 56, 57, 58, 59] (by decide +kernel) (by decide +kernel)
set_option maxRecDepth 20000 in
theorem gX9_due_X9_holds : GoodIn wsX9_due (wsV RX9 82 RX9 yX9_holds wsX9_holds) := goodIn_app (goodIn_of _ (by decide +kernel)) ggX9_due_X9_holds
set_option maxRecDepth 20000 in
theorem ggX9_due_X9_dueFor : GoodIn wsX9_due wsX9_dueFor := goodIn_r _ [21, 22, 23, 24, 25, 26, 27, 28, 29, 4, 30, 31, 32, 33, 34, 35, 36, 37, 38, 39, 40, 41, 42, 43, 44, 45, 46, 47, 48, 49, 50, 51, 52, 53, 54, 55, 56, 57, 58, 59] (by decide +kernel) (by decide +kernel)
set_option maxRecDepth 20000 in
theorem gX9_due_X9_dueFor : GoodIn wsX9_due (wsV RX9 104 RX9 yX9_dueFor wsX9_dueFor) := goodIn_app (goodIn_of _ (by decide +kernel)) ggX9_due_X9_dueFor
theorem dX9_due_0 : decode cX9_due 0 = .ok (.aload_n 0, 1) := by decide +kernel
theorem dX9_due_1 : decode cX9_due 1 = .ok (.aload_n 0, 1) := by decide +kernel
theorem dX9_due_2 : decode cX9_due 2 = .ok (.iload_n 1, 1) := by decide +kernel
theorem dX9_due_3 : decode cX9_due 3 = .ok (.invokevirtual 86, 3) := by decide +kernel
theorem dX9_due_6 : decode cX9_due 6 = .ok (.ifCond .ne 7, 3) := by decide +kernel
theorem dX9_due_9 : decode cX9_due 9 = .ok (.iconst 1, 1) := by decide +kernel
theorem dX9_due_10 : decode cX9_due 10 = .ok (.goto 15, 3) := by decide +kernel
theorem dX9_due_13 : decode cX9_due 13 = .ok (.iload_n 2, 1) := by decide +kernel
theorem dX9_due_14 : decode cX9_due 14 = .ok (.invokestatic 89, 3) := by decide +kernel
theorem dX9_due_17 : decode cX9_due 17 = .ok (.ifCond .eq 7, 3) := by decide +kernel
theorem dX9_due_20 : decode cX9_due 20 = .ok (.iconst 0, 1) := by decide +kernel
theorem dX9_due_21 : decode cX9_due 21 = .ok (.goto 4, 3) := by decide +kernel
theorem dX9_due_24 : decode cX9_due 24 = .ok (.iconst 2, 1) := by decide +kernel
theorem dX9_due_25 : decode cX9_due 25 = .ok (.invokevirtual 82, 3) := by decide +kernel
theorem dX9_due_28 : decode cX9_due 28 = .ok (.ifCond .eq 12, 3) := by decide +kernel
theorem dX9_due_31 : decode cX9_due 31 = .ok (.aload_n 0, 1) := by decide +kernel
theorem dX9_due_32 : decode cX9_due 32 = .ok (.iload_n 1, 1) := by decide +kernel
theorem dX9_due_33 : decode cX9_due 33 = .ok (.iload_n 2, 1) := by decide +kernel
theorem dX9_due_34 : decode cX9_due 34 = .ok (.invokevirtual 104, 3) := by decide +kernel
theorem dX9_due_37 : decode cX9_due 37 = .ok (.goto 4, 3) := by decide +kernel
theorem dX9_due_40 : decode cX9_due 40 = .ok (.iconst 0, 1) := by decide +kernel
theorem dX9_due_41 : decode cX9_due 41 = .ok (.ireturn, 1) := by decide +kernel
set_option maxRecDepth 20000 in
theorem ggX9_order_X9_in : GoodIn wsX9_order wsX9_in := goodIn_r _ [11] (by decide +kernel) (by decide +kernel)
set_option maxRecDepth 20000 in
theorem gX9_order_X9_in : GoodIn wsX9_order (va_wsS RX9 78 yX9_in wsX9_in) := goodIn_app (goodIn_of _ (by decide +kernel)) ggX9_order_X9_in
set_option maxRecDepth 20000 in
theorem ggX9_order_X9_isWorker : GoodIn wsX9_order wsX9_isWorker := goodIn_r _ [15, 16, 8, 9, 10, 11, 22, 23, 24, 25, 26, 27, 28, 29, 30, 31, 32, 33, 34, 35, 36, 37, 38, 39, 40, 41, 42, 43, 44, 45, 46] (by decide +kernel) (by decide +kernel)
set_option maxRecDepth 20000 in
theorem gX9_order_X9_isWorker : GoodIn wsX9_order (wsV RX9 86 RX9 yX9_isWorker wsX9_isWorker) := goodIn_app (goodIn_of _ (by decide +kernel)) ggX9_order_X9_isWorker
set_option maxRecDepth 20000 in
theorem ggX9_order_X9_holds : GoodIn wsX9_order wsX9_holds := goodIn_r _ [20, 21, 22, 23, 24, 25, 26, 27, 28, 29, 30, 31, 32, 33, 34, 35, 36, 37, 38, 39, 40, 41, 42, 43, 44, 45, 46] (by decide +kernel) (by decide +kernel)
set_option maxRecDepth 20000 in
theorem gX9_order_X9_holds : GoodIn wsX9_order (wsV RX9 82 RX9 yX9_holds wsX9_holds) := goodIn_app (goodIn_of _ (by decide +kernel)) ggX9_order_X9_holds
theorem dX9_order_0 : decode cX9_order 0 = .ok (.iload_n 2, 1) := by decide +kernel
theorem dX9_order_1 : decode cX9_order 1 = .ok (.iconst 0, 1) := by decide +kernel
theorem dX9_order_2 : decode cX9_order 2 = .ok (.iconst 2, 1) := by decide +kernel
theorem dX9_order_3 : decode cX9_order 3 = .ok (.invokestatic 78, 3) := by decide +kernel
theorem dX9_order_6 : decode cX9_order 6 = .ok (.ifCond .eq 28, 3) := by decide +kernel
theorem dX9_order_9 : decode cX9_order 9 = .ok (.iload_n 3, 1) := by decide +kernel
theorem dX9_order_10 : decode cX9_order 10 = .ok (.iconst 1, 1) := by decide +kernel
theorem dX9_order_11 : decode cX9_order 11 = .ok (.ldc 108, 2) := by decide +kernel
theorem dX9_order_13 : decode cX9_order 13 = .ok (.invokestatic 78, 3) := by decide +kernel
theorem dX9_order_16 : decode cX9_order 16 = .ok (.ifCond .eq 18, 3) := by decide +kernel
theorem dX9_order_19 : decode cX9_order 19 = .ok (.iload 4, 2) := by decide +kernel
theorem dX9_order_21 : decode cX9_order 21 = .ok (.iconst 1, 1) := by decide +kernel
theorem dX9_order_22 : decode cX9_order 22 = .ok (.ldc 109, 2) := by decide +kernel
theorem dX9_order_24 : decode cX9_order 24 = .ok (.invokestatic 78, 3) := by decide +kernel
theorem dX9_order_27 : decode cX9_order 27 = .ok (.ifCond .eq 7, 3) := by decide +kernel
theorem dX9_order_30 : decode cX9_order 30 = .ok (.iconst 1, 1) := by decide +kernel
theorem dX9_order_31 : decode cX9_order 31 = .ok (.goto 4, 3) := by decide +kernel
theorem dX9_order_34 : decode cX9_order 34 = .ok (.iconst 0, 1) := by decide +kernel
theorem dX9_order_35 : decode cX9_order 35 = .ok (.istore 5, 2) := by decide +kernel
theorem dX9_order_37 : decode cX9_order 37 = .ok (.aload_n 0, 1) := by decide +kernel
theorem dX9_order_38 : decode cX9_order 38 = .ok (.aload_n 0, 1) := by decide +kernel
theorem dX9_order_39 : decode cX9_order 39 = .ok (.iload_n 1, 1) := by decide +kernel
theorem dX9_order_40 : decode cX9_order 40 = .ok (.invokevirtual 86, 3) := by decide +kernel
theorem dX9_order_43 : decode cX9_order 43 = .ok (.ifCond .ne 7, 3) := by decide +kernel
theorem dX9_order_46 : decode cX9_order 46 = .ok (.iconst 1, 1) := by decide +kernel
theorem dX9_order_47 : decode cX9_order 47 = .ok (.goto 26, 3) := by decide +kernel
theorem dX9_order_50 : decode cX9_order 50 = .ok (.iload 5, 2) := by decide +kernel
theorem dX9_order_52 : decode cX9_order 52 = .ok (.ifCond .ne 7, 3) := by decide +kernel
theorem dX9_order_55 : decode cX9_order 55 = .ok (.iconst 2, 1) := by decide +kernel
theorem dX9_order_56 : decode cX9_order 56 = .ok (.goto 17, 3) := by decide +kernel
theorem dX9_order_59 : decode cX9_order 59 = .ok (.aload_n 0, 1) := by decide +kernel
theorem dX9_order_60 : decode cX9_order 60 = .ok (.getfield 110, 3) := by decide +kernel
theorem dX9_order_63 : decode cX9_order 63 = .ok (.bipush 20, 2) := by decide +kernel
theorem dX9_order_65 : decode cX9_order 65 = .ok (.if_icmp .ne 7, 3) := by decide +kernel
theorem dX9_order_68 : decode cX9_order 68 = .ok (.iconst 3, 1) := by decide +kernel
theorem dX9_order_69 : decode cX9_order 69 = .ok (.goto 4, 3) := by decide +kernel
theorem dX9_order_72 : decode cX9_order 72 = .ok (.iconst 0, 1) := by decide +kernel
theorem dX9_order_73 : decode cX9_order 73 = .ok (.invokevirtual 82, 3) := by decide +kernel
theorem dX9_order_76 : decode cX9_order 76 = .ok (.ifCond .ne 5, 3) := by decide +kernel
theorem dX9_order_79 : decode cX9_order 79 = .ok (.iconst 0, 1) := by decide +kernel
theorem dX9_order_80 : decode cX9_order 80 = .ok (.ireturn, 1) := by decide +kernel
theorem dX9_order_81 : decode cX9_order 81 = .ok (.aload_n 0, 1) := by decide +kernel
theorem dX9_order_82 : decode cX9_order 82 = .ok (.getfield 40, 3) := by decide +kernel
theorem dX9_order_85 : decode cX9_order 85 = .ok (.aload_n 0, 1) := by decide +kernel
theorem dX9_order_86 : decode cX9_order 86 = .ok (.getfield 110, 3) := by decide +kernel
theorem dX9_order_89 : decode cX9_order 89 = .ok (.iload_n 1, 1) := by decide +kernel
theorem dX9_order_90 : decode cX9_order 90 = .ok (.iastore, 1) := by decide +kernel
theorem dX9_order_91 : decode cX9_order 91 = .ok (.aload_n 0, 1) := by decide +kernel
theorem dX9_order_92 : decode cX9_order 92 = .ok (.getfield 43, 3) := by decide +kernel
theorem dX9_order_95 : decode cX9_order 95 = .ok (.aload_n 0, 1) := by decide +kernel
theorem dX9_order_96 : decode cX9_order 96 = .ok (.getfield 110, 3) := by decide +kernel
theorem dX9_order_99 : decode cX9_order 99 = .ok (.iload_n 2, 1) := by decide +kernel
theorem dX9_order_100 : decode cX9_order 100 = .ok (.iastore, 1) := by decide +kernel
theorem dX9_order_101 : decode cX9_order 101 = .ok (.aload_n 0, 1) := by decide +kernel
theorem dX9_order_102 : decode cX9_order 102 = .ok (.getfield 46, 3) := by decide +kernel
theorem dX9_order_105 : decode cX9_order 105 = .ok (.aload_n 0, 1) := by decide +kernel
theorem dX9_order_106 : decode cX9_order 106 = .ok (.getfield 110, 3) := by decide +kernel
theorem dX9_order_109 : decode cX9_order 109 = .ok (.iload_n 3, 1) := by decide +kernel
theorem dX9_order_110 : decode cX9_order 110 = .ok (.iastore, 1) := by decide +kernel
theorem dX9_order_111 : decode cX9_order 111 = .ok (.aload_n 0, 1) := by decide +kernel
theorem dX9_order_112 : decode cX9_order 112 = .ok (.getfield 49, 3) := by decide +kernel
theorem dX9_order_115 : decode cX9_order 115 = .ok (.aload_n 0, 1) := by decide +kernel
theorem dX9_order_116 : decode cX9_order 116 = .ok (.getfield 110, 3) := by decide +kernel
theorem dX9_order_119 : decode cX9_order 119 = .ok (.iload 4, 2) := by decide +kernel
theorem dX9_order_121 : decode cX9_order 121 = .ok (.iastore, 1) := by decide +kernel
theorem dX9_order_122 : decode cX9_order 122 = .ok (.aload_n 0, 1) := by decide +kernel
theorem dX9_order_123 : decode cX9_order 123 = .ok (.dup, 1) := by decide +kernel
theorem dX9_order_124 : decode cX9_order 124 = .ok (.getfield 110, 3) := by decide +kernel
theorem dX9_order_127 : decode cX9_order 127 = .ok (.iconst 1, 1) := by decide +kernel
theorem dX9_order_128 : decode cX9_order 128 = .ok (.iadd, 1) := by decide +kernel
theorem dX9_order_129 : decode cX9_order 129 = .ok (.putfield 110, 3) := by decide +kernel
theorem dX9_order_132 : decode cX9_order 132 = .ok (.aload_n 0, 1) := by decide +kernel
theorem dX9_order_133 : decode cX9_order 133 = .ok (.getfield 110, 3) := by decide +kernel
theorem dX9_order_136 : decode cX9_order 136 = .ok (.iconst 1, 1) := by decide +kernel
theorem dX9_order_137 : decode cX9_order 137 = .ok (.isub, 1) := by decide +kernel
theorem dX9_order_138 : decode cX9_order 138 = .ok (.ireturn, 1) := by decide +kernel
set_option maxRecDepth 20000 in
theorem ggX9_left_X9_in : GoodIn wsX9_left wsX9_in := goodIn_r _ [6] (by decide +kernel) (by decide +kernel)
set_option maxRecDepth 20000 in
theorem gX9_left_X9_in : GoodIn wsX9_left (va_wsS RX9 78 yX9_in wsX9_in) := goodIn_app (goodIn_of _ (by decide +kernel)) ggX9_left_X9_in
set_option maxRecDepth 20000 in
theorem ggX9_left_X9_holds : GoodIn wsX9_left wsX9_holds := goodIn_r _ [10, 11, 12, 13, 14, 15, 16, 17, 18, 19, 20, 21, 22, 23, 24, 25, 26, 27, 28, 29, 30, 31, 32, 33, 34, 35, 36] (by decide +kernel) (by decide +kernel)
set_option maxRecDepth 20000 in
theorem gX9_left_X9_holds : GoodIn wsX9_left (wsV RX9 82 RX9 yX9_holds wsX9_holds) := goodIn_app (goodIn_of _ (by decide +kernel)) ggX9_left_X9_holds
theorem dX9_left_0 : decode cX9_left 0 = .ok (.aload_n 0, 1) := by decide +kernel
theorem dX9_left_1 : decode cX9_left 1 = .ok (.iload_n 1, 1) := by decide +kernel
theorem dX9_left_2 : decode cX9_left 2 = .ok (.iconst 0, 1) := by decide +kernel
theorem dX9_left_3 : decode cX9_left 3 = .ok (.aload_n 0, 1) := by decide +kernel
theorem dX9_left_4 : decode cX9_left 4 = .ok (.getfield 110, 3) := by decide +kernel
theorem dX9_left_7 : decode cX9_left 7 = .ok (.iconst 1, 1) := by decide +kernel
theorem dX9_left_8 : decode cX9_left 8 = .ok (.isub, 1) := by decide +kernel
theorem dX9_left_9 : decode cX9_left 9 = .ok (.invokestatic 78, 3) := by decide +kernel
theorem dX9_left_12 : decode cX9_left 12 = .ok (.ifCond .eq 7, 3) := by decide +kernel
theorem dX9_left_15 : decode cX9_left 15 = .ok (.iconst 0, 1) := by decide +kernel
theorem dX9_left_16 : decode cX9_left 16 = .ok (.goto 4, 3) := by decide +kernel
theorem dX9_left_19 : decode cX9_left 19 = .ok (.iconst 1, 1) := by decide +kernel
theorem dX9_left_20 : decode cX9_left 20 = .ok (.invokevirtual 82, 3) := by decide +kernel
theorem dX9_left_23 : decode cX9_left 23 = .ok (.ifCond .eq 12, 3) := by decide +kernel
theorem dX9_left_26 : decode cX9_left 26 = .ok (.aload_n 0, 1) := by decide +kernel
theorem dX9_left_27 : decode cX9_left 27 = .ok (.getfield 46, 3) := by decide +kernel
theorem dX9_left_30 : decode cX9_left 30 = .ok (.iload_n 1, 1) := by decide +kernel
theorem dX9_left_31 : decode cX9_left 31 = .ok (.iaload, 1) := by decide +kernel
theorem dX9_left_32 : decode cX9_left 32 = .ok (.goto 4, 3) := by decide +kernel
theorem dX9_left_35 : decode cX9_left 35 = .ok (.iconst 0, 1) := by decide +kernel
theorem dX9_left_36 : decode cX9_left 36 = .ok (.ireturn, 1) := by decide +kernel
set_option maxRecDepth 20000 in
theorem ggX9_setFloor_X9_in : GoodIn wsX9_setFloor wsX9_in := goodIn_r _ [6] (by decide +kernel) (by decide +kernel)
set_option maxRecDepth 20000 in
theorem gX9_setFloor_X9_in : GoodIn wsX9_setFloor (va_wsS RX9 78 yX9_in wsX9_in) := goodIn_app (goodIn_of _ (by decide +kernel)) ggX9_setFloor_X9_in
set_option maxRecDepth 20000 in
theorem ggX9_setFloor_X9_holds : GoodIn wsX9_setFloor wsX9_holds := goodIn_r _ [10, 11, 12, 13, 14, 15, 16, 17, 18, 19, 20, 21, 22, 23, 24, 25, 26, 27, 28, 29, 30, 31, 32, 33, 34, 35, 36] (by decide +kernel) (by decide +kernel)
set_option maxRecDepth 20000 in
theorem gX9_setFloor_X9_holds : GoodIn wsX9_setFloor (wsV RX9 82 RX9 yX9_holds wsX9_holds) := goodIn_app (goodIn_of _ (by decide +kernel)) ggX9_setFloor_X9_holds
theorem dX9_setFloor_0 : decode cX9_setFloor 0 = .ok (.aload_n 0, 1) := by decide +kernel
theorem dX9_setFloor_1 : decode cX9_setFloor 1 = .ok (.iload_n 1, 1) := by decide +kernel
theorem dX9_setFloor_2 : decode cX9_setFloor 2 = .ok (.iconst 0, 1) := by decide +kernel
theorem dX9_setFloor_3 : decode cX9_setFloor 3 = .ok (.ldc 108, 2) := by decide +kernel
theorem dX9_setFloor_5 : decode cX9_setFloor 5 = .ok (.invokestatic 78, 3) := by decide +kernel
theorem dX9_setFloor_8 : decode cX9_setFloor 8 = .ok (.ifCond .eq 7, 3) := by decide +kernel
theorem dX9_setFloor_11 : decode cX9_setFloor 11 = .ok (.iconst 0, 1) := by decide +kernel
theorem dX9_setFloor_12 : decode cX9_setFloor 12 = .ok (.goto 4, 3) := by decide +kernel
theorem dX9_setFloor_15 : decode cX9_setFloor 15 = .ok (.iconst 1, 1) := by decide +kernel
theorem dX9_setFloor_16 : decode cX9_setFloor 16 = .ok (.invokevirtual 82, 3) := by decide +kernel
theorem dX9_setFloor_19 : decode cX9_setFloor 19 = .ok (.ifCond .ne 5, 3) := by decide +kernel
theorem dX9_setFloor_22 : decode cX9_setFloor 22 = .ok (.iconst 0, 1) := by decide +kernel
theorem dX9_setFloor_23 : decode cX9_setFloor 23 = .ok (.ireturn, 1) := by decide +kernel
theorem dX9_setFloor_24 : decode cX9_setFloor 24 = .ok (.aload_n 0, 1) := by decide +kernel
theorem dX9_setFloor_25 : decode cX9_setFloor 25 = .ok (.getfield 52, 3) := by decide +kernel
theorem dX9_setFloor_28 : decode cX9_setFloor 28 = .ok (.istore_n 2, 1) := by decide +kernel
theorem dX9_setFloor_29 : decode cX9_setFloor 29 = .ok (.aload_n 0, 1) := by decide +kernel
theorem dX9_setFloor_30 : decode cX9_setFloor 30 = .ok (.iload_n 1, 1) := by decide +kernel
theorem dX9_setFloor_31 : decode cX9_setFloor 31 = .ok (.putfield 52, 3) := by decide +kernel
theorem dX9_setFloor_34 : decode cX9_setFloor 34 = .ok (.iload_n 2, 1) := by decide +kernel
theorem dX9_setFloor_35 : decode cX9_setFloor 35 = .ok (.ireturn, 1) := by decide +kernel
set_option maxRecDepth 20000 in
theorem ggX9_isEmployer_X9_in : GoodIn wsX9_isEmployer wsX9_in := goodIn_r _ [4] (by decide +kernel) (by decide +kernel)
set_option maxRecDepth 20000 in
theorem gX9_isEmployer_X9_in : GoodIn wsX9_isEmployer (va_wsS RX9 78 yX9_in wsX9_in) := goodIn_app (goodIn_of _ (by decide +kernel)) ggX9_isEmployer_X9_in
theorem dX9_isEmployer_0 : decode cX9_isEmployer 0 = .ok (.iload_n 0, 1) := by decide +kernel
theorem dX9_isEmployer_1 : decode cX9_isEmployer 1 = .ok (.iconst 0, 1) := by decide +kernel
theorem dX9_isEmployer_2 : decode cX9_isEmployer 2 = .ok (.iconst 2, 1) := by decide +kernel
theorem dX9_isEmployer_3 : decode cX9_isEmployer 3 = .ok (.invokestatic 78, 3) := by decide +kernel
theorem dX9_isEmployer_6 : decode cX9_isEmployer 6 = .ok (.ireturn, 1) := by decide +kernel
set_option maxRecDepth 20000 in
theorem ggX9_fill_X9_isEmployer : GoodIn wsX9_fill wsX9_isEmployer := goodIn_r _ [10, 11, 12, 9, 13] (by decide +kernel) (by decide +kernel)
set_option maxRecDepth 20000 in
theorem gX9_fill_X9_isEmployer : GoodIn wsX9_fill (va_wsS RX9 113 yX9_isEmployer wsX9_isEmployer) := goodIn_app (goodIn_of _ (by decide +kernel)) ggX9_fill_X9_isEmployer
set_option maxRecDepth 20000 in
theorem ggX9_fill_X9_in : GoodIn wsX9_fill wsX9_in := goodIn_r _ [13] (by decide +kernel) (by decide +kernel)
set_option maxRecDepth 20000 in
theorem gX9_fill_X9_in : GoodIn wsX9_fill (va_wsS RX9 78 yX9_in wsX9_in) := goodIn_app (goodIn_of _ (by decide +kernel)) ggX9_fill_X9_in
set_option maxRecDepth 20000 in
theorem ggX9_fill_X9_holds : GoodIn wsX9_fill wsX9_holds := goodIn_r _ [17, 18, 22, 23, 24, 25, 26, 27, 28, 29, 30, 31, 32, 33, 34, 35, 36, 37, 38, 39, 40, 41, 42, 43, 44, 45, 46] (by decide +kernel) (by decide +kernel)
set_option maxRecDepth 20000 in
theorem gX9_fill_X9_holds : GoodIn wsX9_fill (wsV RX9 82 RX9 yX9_holds wsX9_holds) := goodIn_app (goodIn_of _ (by decide +kernel)) ggX9_fill_X9_holds
set_option maxRecDepth 20000 in
theorem ggX9_fill_X9_least : GoodIn wsX9_fill wsX9_least := goodIn_r _ [21] (by decide +kernel) (by decide +kernel)
set_option maxRecDepth 20000 in
theorem gX9_fill_X9_least : GoodIn wsX9_fill (va_wsS RX9 119 yX9_least wsX9_least) := goodIn_app (goodIn_of _ (by decide +kernel)) ggX9_fill_X9_least
theorem dX9_fill_0 : decode cX9_fill 0 = .ok (.aload_n 0, 1) := by decide +kernel
theorem dX9_fill_1 : decode cX9_fill 1 = .ok (.iload_n 1, 1) := by decide +kernel
theorem dX9_fill_2 : decode cX9_fill 2 = .ok (.invokestatic 113, 3) := by decide +kernel
theorem dX9_fill_5 : decode cX9_fill 5 = .ok (.ifCond .ne 7, 3) := by decide +kernel
theorem dX9_fill_8 : decode cX9_fill 8 = .ok (.iconst 1, 1) := by decide +kernel
theorem dX9_fill_9 : decode cX9_fill 9 = .ok (.goto 31, 3) := by decide +kernel
theorem dX9_fill_12 : decode cX9_fill 12 = .ok (.iload_n 2, 1) := by decide +kernel
theorem dX9_fill_13 : decode cX9_fill 13 = .ok (.iconst 1, 1) := by decide +kernel
theorem dX9_fill_14 : decode cX9_fill 14 = .ok (.ldc 108, 2) := by decide +kernel
theorem dX9_fill_16 : decode cX9_fill 16 = .ok (.invokestatic 78, 3) := by decide +kernel
theorem dX9_fill_19 : decode cX9_fill 19 = .ok (.ifCond .ne 7, 3) := by decide +kernel
theorem dX9_fill_22 : decode cX9_fill 22 = .ok (.iconst 2, 1) := by decide +kernel
theorem dX9_fill_23 : decode cX9_fill 23 = .ok (.goto 17, 3) := by decide +kernel
theorem dX9_fill_26 : decode cX9_fill 26 = .ok (.aload_n 0, 1) := by decide +kernel
theorem dX9_fill_27 : decode cX9_fill 27 = .ok (.getfield 116, 3) := by decide +kernel
theorem dX9_fill_30 : decode cX9_fill 30 = .ok (.bipush 40, 2) := by decide +kernel
theorem dX9_fill_32 : decode cX9_fill 32 = .ok (.if_icmp .ne 7, 3) := by decide +kernel
theorem dX9_fill_35 : decode cX9_fill 35 = .ok (.iconst 3, 1) := by decide +kernel
theorem dX9_fill_36 : decode cX9_fill 36 = .ok (.goto 4, 3) := by decide +kernel
theorem dX9_fill_39 : decode cX9_fill 39 = .ok (.iconst 0, 1) := by decide +kernel
theorem dX9_fill_40 : decode cX9_fill 40 = .ok (.invokevirtual 82, 3) := by decide +kernel
theorem dX9_fill_43 : decode cX9_fill 43 = .ok (.ifCond .ne 5, 3) := by decide +kernel
theorem dX9_fill_46 : decode cX9_fill 46 = .ok (.iconst 0, 1) := by decide +kernel
theorem dX9_fill_47 : decode cX9_fill 47 = .ok (.ireturn, 1) := by decide +kernel
theorem dX9_fill_48 : decode cX9_fill 48 = .ok (.iload_n 2, 1) := by decide +kernel
theorem dX9_fill_49 : decode cX9_fill 49 = .ok (.aload_n 0, 1) := by decide +kernel
theorem dX9_fill_50 : decode cX9_fill 50 = .ok (.getfield 59, 3) := by decide +kernel
theorem dX9_fill_53 : decode cX9_fill 53 = .ok (.iload_n 1, 1) := by decide +kernel
theorem dX9_fill_54 : decode cX9_fill 54 = .ok (.iaload, 1) := by decide +kernel
theorem dX9_fill_55 : decode cX9_fill 55 = .ok (.invokestatic 119, 3) := by decide +kernel
theorem dX9_fill_58 : decode cX9_fill 58 = .ok (.istore_n 3, 1) := by decide +kernel
theorem dX9_fill_59 : decode cX9_fill 59 = .ok (.aload_n 0, 1) := by decide +kernel
theorem dX9_fill_60 : decode cX9_fill 60 = .ok (.getfield 59, 3) := by decide +kernel
theorem dX9_fill_63 : decode cX9_fill 63 = .ok (.iload_n 1, 1) := by decide +kernel
theorem dX9_fill_64 : decode cX9_fill 64 = .ok (.dup2, 1) := by decide +kernel
theorem dX9_fill_65 : decode cX9_fill 65 = .ok (.iaload, 1) := by decide +kernel
theorem dX9_fill_66 : decode cX9_fill 66 = .ok (.iload_n 3, 1) := by decide +kernel
theorem dX9_fill_67 : decode cX9_fill 67 = .ok (.isub, 1) := by decide +kernel
theorem dX9_fill_68 : decode cX9_fill 68 = .ok (.iastore, 1) := by decide +kernel
theorem dX9_fill_69 : decode cX9_fill 69 = .ok (.aload_n 0, 1) := by decide +kernel
theorem dX9_fill_70 : decode cX9_fill 70 = .ok (.getfield 56, 3) := by decide +kernel
theorem dX9_fill_73 : decode cX9_fill 73 = .ok (.iload_n 1, 1) := by decide +kernel
theorem dX9_fill_74 : decode cX9_fill 74 = .ok (.dup2, 1) := by decide +kernel
theorem dX9_fill_75 : decode cX9_fill 75 = .ok (.iaload, 1) := by decide +kernel
theorem dX9_fill_76 : decode cX9_fill 76 = .ok (.iload_n 2, 1) := by decide +kernel
theorem dX9_fill_77 : decode cX9_fill 77 = .ok (.iload_n 3, 1) := by decide +kernel
theorem dX9_fill_78 : decode cX9_fill 78 = .ok (.isub, 1) := by decide +kernel
theorem dX9_fill_79 : decode cX9_fill 79 = .ok (.iadd, 1) := by decide +kernel
theorem dX9_fill_80 : decode cX9_fill 80 = .ok (.iastore, 1) := by decide +kernel
theorem dX9_fill_81 : decode cX9_fill 81 = .ok (.aload_n 0, 1) := by decide +kernel
theorem dX9_fill_82 : decode cX9_fill 82 = .ok (.getfield 62, 3) := by decide +kernel
theorem dX9_fill_85 : decode cX9_fill 85 = .ok (.aload_n 0, 1) := by decide +kernel
theorem dX9_fill_86 : decode cX9_fill 86 = .ok (.getfield 116, 3) := by decide +kernel
theorem dX9_fill_89 : decode cX9_fill 89 = .ok (.iload_n 1, 1) := by decide +kernel
theorem dX9_fill_90 : decode cX9_fill 90 = .ok (.iastore, 1) := by decide +kernel
theorem dX9_fill_91 : decode cX9_fill 91 = .ok (.aload_n 0, 1) := by decide +kernel
theorem dX9_fill_92 : decode cX9_fill 92 = .ok (.getfield 65, 3) := by decide +kernel
theorem dX9_fill_95 : decode cX9_fill 95 = .ok (.aload_n 0, 1) := by decide +kernel
theorem dX9_fill_96 : decode cX9_fill 96 = .ok (.getfield 116, 3) := by decide +kernel
theorem dX9_fill_99 : decode cX9_fill 99 = .ok (.iload_n 2, 1) := by decide +kernel
theorem dX9_fill_100 : decode cX9_fill 100 = .ok (.iastore, 1) := by decide +kernel
theorem dX9_fill_101 : decode cX9_fill 101 = .ok (.aload_n 0, 1) := by decide +kernel
theorem dX9_fill_102 : decode cX9_fill 102 = .ok (.dup, 1) := by decide +kernel
theorem dX9_fill_103 : decode cX9_fill 103 = .ok (.getfield 116, 3) := by decide +kernel
theorem dX9_fill_106 : decode cX9_fill 106 = .ok (.iconst 1, 1) := by decide +kernel
theorem dX9_fill_107 : decode cX9_fill 107 = .ok (.iadd, 1) := by decide +kernel
theorem dX9_fill_108 : decode cX9_fill 108 = .ok (.putfield 116, 3) := by decide +kernel
theorem dX9_fill_111 : decode cX9_fill 111 = .ok (.aload_n 0, 1) := by decide +kernel
theorem dX9_fill_112 : decode cX9_fill 112 = .ok (.getfield 116, 3) := by decide +kernel
theorem dX9_fill_115 : decode cX9_fill 115 = .ok (.iconst 1, 1) := by decide +kernel
theorem dX9_fill_116 : decode cX9_fill 116 = .ok (.isub, 1) := by decide +kernel
theorem dX9_fill_117 : decode cX9_fill 117 = .ok (.ireturn, 1) := by decide +kernel
set_option maxRecDepth 20000 in
theorem ggX9_bounce_X9_in : GoodIn wsX9_bounce wsX9_in := goodIn_r _ [10] (by decide +kernel) (by decide +kernel)
set_option maxRecDepth 20000 in
theorem gX9_bounce_X9_in : GoodIn wsX9_bounce (va_wsS RX9 78 yX9_in wsX9_in) := goodIn_app (goodIn_of _ (by decide +kernel)) ggX9_bounce_X9_in
set_option maxRecDepth 20000 in
theorem ggX9_bounce_X9_holds : GoodIn wsX9_bounce wsX9_holds := goodIn_r _ [14, 15, 19, 20, 21, 22, 23, 24, 25, 26, 27, 28, 29, 30, 31, 32, 33, 34, 35, 36, 37, 38, 39, 40, 41, 42, 43] (by decide +kernel) (by decide +kernel)
set_option maxRecDepth 20000 in
theorem gX9_bounce_X9_holds : GoodIn wsX9_bounce (wsV RX9 82 RX9 yX9_holds wsX9_holds) := goodIn_app (goodIn_of _ (by decide +kernel)) ggX9_bounce_X9_holds
set_option maxRecDepth 20000 in
theorem ggX9_bounce_X9_least : GoodIn wsX9_bounce wsX9_least := goodIn_r _ [18] (by decide +kernel) (by decide +kernel)
set_option maxRecDepth 20000 in
theorem gX9_bounce_X9_least : GoodIn wsX9_bounce (va_wsS RX9 119 yX9_least wsX9_least) := goodIn_app (goodIn_of _ (by decide +kernel)) ggX9_bounce_X9_least
theorem dX9_bounce_0 : decode cX9_bounce 0 = .ok (.iload_n 1, 1) := by decide +kernel
theorem dX9_bounce_1 : decode cX9_bounce 1 = .ok (.iconst 0, 1) := by decide +kernel
theorem dX9_bounce_2 : decode cX9_bounce 2 = .ok (.aload_n 0, 1) := by decide +kernel
theorem dX9_bounce_3 : decode cX9_bounce 3 = .ok (.getfield 116, 3) := by decide +kernel
theorem dX9_bounce_6 : decode cX9_bounce 6 = .ok (.iconst 1, 1) := by decide +kernel
theorem dX9_bounce_7 : decode cX9_bounce 7 = .ok (.isub, 1) := by decide +kernel
theorem dX9_bounce_8 : decode cX9_bounce 8 = .ok (.invokestatic 78, 3) := by decide +kernel
theorem dX9_bounce_11 : decode cX9_bounce 11 = .ok (.istore_n 2, 1) := by decide +kernel
theorem dX9_bounce_12 : decode cX9_bounce 12 = .ok (.aload_n 0, 1) := by decide +kernel
theorem dX9_bounce_13 : decode cX9_bounce 13 = .ok (.iload_n 2, 1) := by decide +kernel
theorem dX9_bounce_14 : decode cX9_bounce 14 = .ok (.ifCond .ne 7, 3) := by decide +kernel
theorem dX9_bounce_17 : decode cX9_bounce 17 = .ok (.iconst 1, 1) := by decide +kernel
theorem dX9_bounce_18 : decode cX9_bounce 18 = .ok (.goto 17, 3) := by decide +kernel
theorem dX9_bounce_21 : decode cX9_bounce 21 = .ok (.aload_n 0, 1) := by decide +kernel
theorem dX9_bounce_22 : decode cX9_bounce 22 = .ok (.getfield 68, 3) := by decide +kernel
theorem dX9_bounce_25 : decode cX9_bounce 25 = .ok (.iload_n 1, 1) := by decide +kernel
theorem dX9_bounce_26 : decode cX9_bounce 26 = .ok (.baload, 1) := by decide +kernel
theorem dX9_bounce_27 : decode cX9_bounce 27 = .ok (.ifCond .eq 7, 3) := by decide +kernel
theorem dX9_bounce_30 : decode cX9_bounce 30 = .ok (.iconst 2, 1) := by decide +kernel
theorem dX9_bounce_31 : decode cX9_bounce 31 = .ok (.goto 4, 3) := by decide +kernel
theorem dX9_bounce_34 : decode cX9_bounce 34 = .ok (.iconst 0, 1) := by decide +kernel
theorem dX9_bounce_35 : decode cX9_bounce 35 = .ok (.invokevirtual 82, 3) := by decide +kernel
theorem dX9_bounce_38 : decode cX9_bounce 38 = .ok (.ifCond .ne 5, 3) := by decide +kernel
theorem dX9_bounce_41 : decode cX9_bounce 41 = .ok (.iconst 0, 1) := by decide +kernel
theorem dX9_bounce_42 : decode cX9_bounce 42 = .ok (.ireturn, 1) := by decide +kernel
theorem dX9_bounce_43 : decode cX9_bounce 43 = .ok (.aload_n 0, 1) := by decide +kernel
theorem dX9_bounce_44 : decode cX9_bounce 44 = .ok (.getfield 62, 3) := by decide +kernel
theorem dX9_bounce_47 : decode cX9_bounce 47 = .ok (.iload_n 1, 1) := by decide +kernel
theorem dX9_bounce_48 : decode cX9_bounce 48 = .ok (.iaload, 1) := by decide +kernel
theorem dX9_bounce_49 : decode cX9_bounce 49 = .ok (.istore_n 3, 1) := by decide +kernel
theorem dX9_bounce_50 : decode cX9_bounce 50 = .ok (.aload_n 0, 1) := by decide +kernel
theorem dX9_bounce_51 : decode cX9_bounce 51 = .ok (.getfield 65, 3) := by decide +kernel
theorem dX9_bounce_54 : decode cX9_bounce 54 = .ok (.iload_n 1, 1) := by decide +kernel
theorem dX9_bounce_55 : decode cX9_bounce 55 = .ok (.iaload, 1) := by decide +kernel
theorem dX9_bounce_56 : decode cX9_bounce 56 = .ok (.aload_n 0, 1) := by decide +kernel
theorem dX9_bounce_57 : decode cX9_bounce 57 = .ok (.getfield 56, 3) := by decide +kernel
theorem dX9_bounce_60 : decode cX9_bounce 60 = .ok (.iload_n 3, 1) := by decide +kernel
theorem dX9_bounce_61 : decode cX9_bounce 61 = .ok (.iaload, 1) := by decide +kernel
theorem dX9_bounce_62 : decode cX9_bounce 62 = .ok (.invokestatic 119, 3) := by decide +kernel
theorem dX9_bounce_65 : decode cX9_bounce 65 = .ok (.istore 4, 2) := by decide +kernel
theorem dX9_bounce_67 : decode cX9_bounce 67 = .ok (.aload_n 0, 1) := by decide +kernel
theorem dX9_bounce_68 : decode cX9_bounce 68 = .ok (.getfield 68, 3) := by decide +kernel
theorem dX9_bounce_71 : decode cX9_bounce 71 = .ok (.iload_n 1, 1) := by decide +kernel
theorem dX9_bounce_72 : decode cX9_bounce 72 = .ok (.iconst 1, 1) := by decide +kernel
theorem dX9_bounce_73 : decode cX9_bounce 73 = .ok (.bastore, 1) := by decide +kernel
theorem dX9_bounce_74 : decode cX9_bounce 74 = .ok (.aload_n 0, 1) := by decide +kernel
theorem dX9_bounce_75 : decode cX9_bounce 75 = .ok (.getfield 56, 3) := by decide +kernel
theorem dX9_bounce_78 : decode cX9_bounce 78 = .ok (.iload_n 3, 1) := by decide +kernel
theorem dX9_bounce_79 : decode cX9_bounce 79 = .ok (.dup2, 1) := by decide +kernel
theorem dX9_bounce_80 : decode cX9_bounce 80 = .ok (.iaload, 1) := by decide +kernel
theorem dX9_bounce_81 : decode cX9_bounce 81 = .ok (.iload 4, 2) := by decide +kernel
theorem dX9_bounce_83 : decode cX9_bounce 83 = .ok (.isub, 1) := by decide +kernel
theorem dX9_bounce_84 : decode cX9_bounce 84 = .ok (.iastore, 1) := by decide +kernel
theorem dX9_bounce_85 : decode cX9_bounce 85 = .ok (.aload_n 0, 1) := by decide +kernel
theorem dX9_bounce_86 : decode cX9_bounce 86 = .ok (.getfield 59, 3) := by decide +kernel
theorem dX9_bounce_89 : decode cX9_bounce 89 = .ok (.iload_n 3, 1) := by decide +kernel
theorem dX9_bounce_90 : decode cX9_bounce 90 = .ok (.dup2, 1) := by decide +kernel
theorem dX9_bounce_91 : decode cX9_bounce 91 = .ok (.iaload, 1) := by decide +kernel
theorem dX9_bounce_92 : decode cX9_bounce 92 = .ok (.aload_n 0, 1) := by decide +kernel
theorem dX9_bounce_93 : decode cX9_bounce 93 = .ok (.getfield 65, 3) := by decide +kernel
theorem dX9_bounce_96 : decode cX9_bounce 96 = .ok (.iload_n 1, 1) := by decide +kernel
theorem dX9_bounce_97 : decode cX9_bounce 97 = .ok (.iaload, 1) := by decide +kernel
theorem dX9_bounce_98 : decode cX9_bounce 98 = .ok (.iload 4, 2) := by decide +kernel
theorem dX9_bounce_100 : decode cX9_bounce 100 = .ok (.isub, 1) := by decide +kernel
theorem dX9_bounce_101 : decode cX9_bounce 101 = .ok (.iadd, 1) := by decide +kernel
theorem dX9_bounce_102 : decode cX9_bounce 102 = .ok (.iastore, 1) := by decide +kernel
theorem dX9_bounce_103 : decode cX9_bounce 103 = .ok (.aload_n 0, 1) := by decide +kernel
theorem dX9_bounce_104 : decode cX9_bounce 104 = .ok (.getfield 59, 3) := by decide +kernel
theorem dX9_bounce_107 : decode cX9_bounce 107 = .ok (.iload_n 3, 1) := by decide +kernel
theorem dX9_bounce_108 : decode cX9_bounce 108 = .ok (.iaload, 1) := by decide +kernel
theorem dX9_bounce_109 : decode cX9_bounce 109 = .ok (.ireturn, 1) := by decide +kernel
set_option maxRecDepth 20000 in
theorem ggX9_pot_X9_isEmployer : GoodIn wsX9_pot wsX9_isEmployer := goodIn_r _ [5, 6, 7, 4, 8] (by decide +kernel) (by decide +kernel)
set_option maxRecDepth 20000 in
theorem gX9_pot_X9_isEmployer : GoodIn wsX9_pot (va_wsS RX9 113 yX9_isEmployer wsX9_isEmployer) := goodIn_app (goodIn_of _ (by decide +kernel)) ggX9_pot_X9_isEmployer
set_option maxRecDepth 20000 in
theorem ggX9_pot_X9_holds : GoodIn wsX9_pot wsX9_holds := goodIn_r _ [12, 13, 14, 15, 16, 17, 18, 19, 20, 21, 22, 23, 24, 25, 26, 27, 28, 29, 30, 31, 32, 33, 34, 35, 36, 37, 38] (by decide +kernel) (by decide +kernel)
set_option maxRecDepth 20000 in
theorem gX9_pot_X9_holds : GoodIn wsX9_pot (wsV RX9 82 RX9 yX9_holds wsX9_holds) := goodIn_app (goodIn_of _ (by decide +kernel)) ggX9_pot_X9_holds
theorem dX9_pot_0 : decode cX9_pot 0 = .ok (.aload_n 0, 1) := by decide +kernel
theorem dX9_pot_1 : decode cX9_pot 1 = .ok (.iload_n 1, 1) := by decide +kernel
theorem dX9_pot_2 : decode cX9_pot 2 = .ok (.invokestatic 113, 3) := by decide +kernel
theorem dX9_pot_5 : decode cX9_pot 5 = .ok (.ifCond .eq 7, 3) := by decide +kernel
theorem dX9_pot_8 : decode cX9_pot 8 = .ok (.iconst 0, 1) := by decide +kernel
theorem dX9_pot_9 : decode cX9_pot 9 = .ok (.goto 4, 3) := by decide +kernel
theorem dX9_pot_12 : decode cX9_pot 12 = .ok (.iconst 1, 1) := by decide +kernel
theorem dX9_pot_13 : decode cX9_pot 13 = .ok (.invokevirtual 82, 3) := by decide +kernel
theorem dX9_pot_16 : decode cX9_pot 16 = .ok (.ifCond .eq 12, 3) := by decide +kernel
theorem dX9_pot_19 : decode cX9_pot 19 = .ok (.aload_n 0, 1) := by decide +kernel
theorem dX9_pot_20 : decode cX9_pot 20 = .ok (.getfield 56, 3) := by decide +kernel
theorem dX9_pot_23 : decode cX9_pot 23 = .ok (.iload_n 1, 1) := by decide +kernel
theorem dX9_pot_24 : decode cX9_pot 24 = .ok (.iaload, 1) := by decide +kernel
theorem dX9_pot_25 : decode cX9_pot 25 = .ok (.goto 4, 3) := by decide +kernel
theorem dX9_pot_28 : decode cX9_pot 28 = .ok (.iconst 0, 1) := by decide +kernel
theorem dX9_pot_29 : decode cX9_pot 29 = .ok (.ireturn, 1) := by decide +kernel
set_option maxRecDepth 20000 in
theorem ggX9_shortage_X9_isEmployer : GoodIn wsX9_shortage wsX9_isEmployer := goodIn_r _ [5, 6, 7, 4, 8] (by decide +kernel) (by decide +kernel)
set_option maxRecDepth 20000 in
theorem gX9_shortage_X9_isEmployer : GoodIn wsX9_shortage (va_wsS RX9 113 yX9_isEmployer wsX9_isEmployer) := goodIn_app (goodIn_of _ (by decide +kernel)) ggX9_shortage_X9_isEmployer
set_option maxRecDepth 20000 in
theorem ggX9_shortage_X9_holds : GoodIn wsX9_shortage wsX9_holds := goodIn_r _ [12, 13, 14, 15, 16, 17, 18, 19, 20, 21, 22, 23, 24, 25, 26, 27, 28, 29, 30, 31, 32, 33, 34, 35, 36, 37, 38] (by decide +kernel) (by decide +kernel)
set_option maxRecDepth 20000 in
theorem gX9_shortage_X9_holds : GoodIn wsX9_shortage (wsV RX9 82 RX9 yX9_holds wsX9_holds) := goodIn_app (goodIn_of _ (by decide +kernel)) ggX9_shortage_X9_holds
theorem dX9_shortage_0 : decode cX9_shortage 0 = .ok (.aload_n 0, 1) := by decide +kernel
theorem dX9_shortage_1 : decode cX9_shortage 1 = .ok (.iload_n 1, 1) := by decide +kernel
theorem dX9_shortage_2 : decode cX9_shortage 2 = .ok (.invokestatic 113, 3) := by decide +kernel
theorem dX9_shortage_5 : decode cX9_shortage 5 = .ok (.ifCond .eq 7, 3) := by decide +kernel
theorem dX9_shortage_8 : decode cX9_shortage 8 = .ok (.iconst 0, 1) := by decide +kernel
theorem dX9_shortage_9 : decode cX9_shortage 9 = .ok (.goto 4, 3) := by decide +kernel
theorem dX9_shortage_12 : decode cX9_shortage 12 = .ok (.iconst 1, 1) := by decide +kernel
theorem dX9_shortage_13 : decode cX9_shortage 13 = .ok (.invokevirtual 82, 3) := by decide +kernel
theorem dX9_shortage_16 : decode cX9_shortage 16 = .ok (.ifCond .eq 12, 3) := by decide +kernel
theorem dX9_shortage_19 : decode cX9_shortage 19 = .ok (.aload_n 0, 1) := by decide +kernel
theorem dX9_shortage_20 : decode cX9_shortage 20 = .ok (.getfield 59, 3) := by decide +kernel
theorem dX9_shortage_23 : decode cX9_shortage 23 = .ok (.iload_n 1, 1) := by decide +kernel
theorem dX9_shortage_24 : decode cX9_shortage 24 = .ok (.iaload, 1) := by decide +kernel
theorem dX9_shortage_25 : decode cX9_shortage 25 = .ok (.goto 4, 3) := by decide +kernel
theorem dX9_shortage_28 : decode cX9_shortage 28 = .ok (.iconst 0, 1) := by decide +kernel
theorem dX9_shortage_29 : decode cX9_shortage 29 = .ok (.ireturn, 1) := by decide +kernel
set_option maxRecDepth 20000 in
theorem ggX9_claimOf_X9_dueFor : GoodIn wsX9_claimOf wsX9_dueFor := goodIn_r _ [7, 8, 9, 10, 11, 12, 13, 14, 15, 6, 16, 17, 18, 19, 20, 21, 22, 23, 24, 25, 26, 27, 28, 29, 30, 31, 32, 33, 34, 35, 36, 37, 38, 39, 40, 41, 42, 43, 44, 45] (by decide +kernel) (by decide +kernel)
set_option maxRecDepth 20000 in
theorem gX9_claimOf_X9_dueFor : GoodIn wsX9_claimOf (wsV RX9 104 RX9 yX9_dueFor wsX9_dueFor) := goodIn_app (goodIn_of _ (by decide +kernel)) ggX9_claimOf_X9_dueFor
theorem dX9_claimOf_0 : decode cX9_claimOf 0 = .ok (.iconst 0, 1) := by decide +kernel
theorem dX9_claimOf_1 : decode cX9_claimOf 1 = .ok (.istore_n 2, 1) := by decide +kernel
theorem dX9_claimOf_2 : decode cX9_claimOf 2 = .ok (.iconst 0, 1) := by decide +kernel
theorem dX9_claimOf_3 : decode cX9_claimOf 3 = .ok (.istore_n 3, 1) := by decide +kernel
theorem dX9_claimOf_4 : decode cX9_claimOf 4 = .ok (.iload_n 3, 1) := by decide +kernel
theorem dX9_claimOf_5 : decode cX9_claimOf 5 = .ok (.aload_n 0, 1) := by decide +kernel
theorem dX9_claimOf_6 : decode cX9_claimOf 6 = .ok (.getfield 122, 3) := by decide +kernel
theorem dX9_claimOf_9 : decode cX9_claimOf 9 = .ok (.if_icmp .gt 24, 3) := by decide +kernel
theorem dX9_claimOf_12 : decode cX9_claimOf 12 = .ok (.iload_n 3, 1) := by decide +kernel
theorem dX9_claimOf_13 : decode cX9_claimOf 13 = .ok (.bipush 31, 2) := by decide +kernel
theorem dX9_claimOf_15 : decode cX9_claimOf 15 = .ok (.if_icmp .ge 18, 3) := by decide +kernel
theorem dX9_claimOf_18 : decode cX9_claimOf 18 = .ok (.iload_n 2, 1) := by decide +kernel
theorem dX9_claimOf_19 : decode cX9_claimOf 19 = .ok (.aload_n 0, 1) := by decide +kernel
theorem dX9_claimOf_20 : decode cX9_claimOf 20 = .ok (.iload_n 1, 1) := by decide +kernel
theorem dX9_claimOf_21 : decode cX9_claimOf 21 = .ok (.iload_n 3, 1) := by decide +kernel
theorem dX9_claimOf_22 : decode cX9_claimOf 22 = .ok (.invokevirtual 104, 3) := by decide +kernel
theorem dX9_claimOf_25 : decode cX9_claimOf 25 = .ok (.iadd, 1) := by decide +kernel
theorem dX9_claimOf_26 : decode cX9_claimOf 26 = .ok (.istore_n 2, 1) := by decide +kernel
theorem dX9_claimOf_27 : decode cX9_claimOf 27 = .ok (.iinc 3 1, 3) := by decide +kernel
theorem dX9_claimOf_30 : decode cX9_claimOf 30 = .ok (.goto (-26), 3) := by decide +kernel
theorem dX9_claimOf_33 : decode cX9_claimOf 33 = .ok (.iload_n 2, 1) := by decide +kernel
theorem dX9_claimOf_34 : decode cX9_claimOf 34 = .ok (.aload_n 0, 1) := by decide +kernel
theorem dX9_claimOf_35 : decode cX9_claimOf 35 = .ok (.getfield 31, 3) := by decide +kernel
theorem dX9_claimOf_38 : decode cX9_claimOf 38 = .ok (.iload_n 1, 1) := by decide +kernel
theorem dX9_claimOf_39 : decode cX9_claimOf 39 = .ok (.iaload, 1) := by decide +kernel
theorem dX9_claimOf_40 : decode cX9_claimOf 40 = .ok (.isub, 1) := by decide +kernel
theorem dX9_claimOf_41 : decode cX9_claimOf 41 = .ok (.ireturn, 1) := by decide +kernel
set_option maxRecDepth 20000 in
theorem ggX9_garnishes_X9_least : GoodIn wsX9_garnishes wsX9_least := goodIn_r _ [10] (by decide +kernel) (by decide +kernel)
set_option maxRecDepth 20000 in
theorem gX9_garnishes_X9_least : GoodIn wsX9_garnishes (va_wsS RX9 119 yX9_least wsX9_least) := goodIn_app (goodIn_of _ (by decide +kernel)) ggX9_garnishes_X9_least
theorem dX9_garnishes_0 : decode cX9_garnishes 0 = .ok (.iload_n 2, 1) := by decide +kernel
theorem dX9_garnishes_1 : decode cX9_garnishes 1 = .ok (.istore_n 3, 1) := by decide +kernel
theorem dX9_garnishes_2 : decode cX9_garnishes 2 = .ok (.iconst 0, 1) := by decide +kernel
theorem dX9_garnishes_3 : decode cX9_garnishes 3 = .ok (.istore 4, 2) := by decide +kernel
theorem dX9_garnishes_5 : decode cX9_garnishes 5 = .ok (.iload 4, 2) := by decide +kernel
theorem dX9_garnishes_7 : decode cX9_garnishes 7 = .ok (.iconst 3, 1) := by decide +kernel
theorem dX9_garnishes_8 : decode cX9_garnishes 8 = .ok (.aload_n 0, 1) := by decide +kernel
theorem dX9_garnishes_9 : decode cX9_garnishes 9 = .ok (.getfield 110, 3) := by decide +kernel
theorem dX9_garnishes_12 : decode cX9_garnishes 12 = .ok (.imul, 1) := by decide +kernel
theorem dX9_garnishes_13 : decode cX9_garnishes 13 = .ok (.if_icmp .ge 123, 3) := by decide +kernel
theorem dX9_garnishes_16 : decode cX9_garnishes 16 = .ok (.iload 4, 2) := by decide +kernel
theorem dX9_garnishes_18 : decode cX9_garnishes 18 = .ok (.aload_n 0, 1) := by decide +kernel
theorem dX9_garnishes_19 : decode cX9_garnishes 19 = .ok (.getfield 110, 3) := by decide +kernel
theorem dX9_garnishes_22 : decode cX9_garnishes 22 = .ok (.irem, 1) := by decide +kernel
theorem dX9_garnishes_23 : decode cX9_garnishes 23 = .ok (.istore 5, 2) := by decide +kernel
theorem dX9_garnishes_25 : decode cX9_garnishes 25 = .ok (.aload_n 0, 1) := by decide +kernel
theorem dX9_garnishes_26 : decode cX9_garnishes 26 = .ok (.getfield 40, 3) := by decide +kernel
theorem dX9_garnishes_29 : decode cX9_garnishes 29 = .ok (.iload 5, 2) := by decide +kernel
theorem dX9_garnishes_31 : decode cX9_garnishes 31 = .ok (.iaload, 1) := by decide +kernel
theorem dX9_garnishes_32 : decode cX9_garnishes 32 = .ok (.iload_n 1, 1) := by decide +kernel
theorem dX9_garnishes_33 : decode cX9_garnishes 33 = .ok (.if_icmp .ne 24, 3) := by decide +kernel
theorem dX9_garnishes_36 : decode cX9_garnishes 36 = .ok (.aload_n 0, 1) := by decide +kernel
theorem dX9_garnishes_37 : decode cX9_garnishes 37 = .ok (.getfield 43, 3) := by decide +kernel
theorem dX9_garnishes_40 : decode cX9_garnishes 40 = .ok (.iload 5, 2) := by decide +kernel
theorem dX9_garnishes_42 : decode cX9_garnishes 42 = .ok (.iaload, 1) := by decide +kernel
theorem dX9_garnishes_43 : decode cX9_garnishes 43 = .ok (.iload 4, 2) := by decide +kernel
theorem dX9_garnishes_45 : decode cX9_garnishes 45 = .ok (.aload_n 0, 1) := by decide +kernel
theorem dX9_garnishes_46 : decode cX9_garnishes 46 = .ok (.getfield 110, 3) := by decide +kernel
theorem dX9_garnishes_49 : decode cX9_garnishes 49 = .ok (.idiv, 1) := by decide +kernel
theorem dX9_garnishes_50 : decode cX9_garnishes 50 = .ok (.if_icmp .ne 7, 3) := by decide +kernel
theorem dX9_garnishes_53 : decode cX9_garnishes 53 = .ok (.iconst 1, 1) := by decide +kernel
theorem dX9_garnishes_54 : decode cX9_garnishes 54 = .ok (.goto 4, 3) := by decide +kernel
theorem dX9_garnishes_57 : decode cX9_garnishes 57 = .ok (.iconst 0, 1) := by decide +kernel
theorem dX9_garnishes_58 : decode cX9_garnishes 58 = .ok (.istore 6, 2) := by decide +kernel
theorem dX9_garnishes_60 : decode cX9_garnishes 60 = .ok (.iload_n 3, 1) := by decide +kernel
theorem dX9_garnishes_61 : decode cX9_garnishes 61 = .ok (.aload_n 0, 1) := by decide +kernel
theorem dX9_garnishes_62 : decode cX9_garnishes 62 = .ok (.getfield 52, 3) := by decide +kernel
theorem dX9_garnishes_65 : decode cX9_garnishes 65 = .ok (.if_icmp .le 12, 3) := by decide +kernel
theorem dX9_garnishes_68 : decode cX9_garnishes 68 = .ok (.iload_n 3, 1) := by decide +kernel
theorem dX9_garnishes_69 : decode cX9_garnishes 69 = .ok (.aload_n 0, 1) := by decide +kernel
theorem dX9_garnishes_70 : decode cX9_garnishes 70 = .ok (.getfield 52, 3) := by decide +kernel
theorem dX9_garnishes_73 : decode cX9_garnishes 73 = .ok (.isub, 1) := by decide +kernel
theorem dX9_garnishes_74 : decode cX9_garnishes 74 = .ok (.goto 4, 3) := by decide +kernel
theorem dX9_garnishes_77 : decode cX9_garnishes 77 = .ok (.iconst 0, 1) := by decide +kernel
theorem dX9_garnishes_78 : decode cX9_garnishes 78 = .ok (.istore 7, 2) := by decide +kernel
theorem dX9_garnishes_80 : decode cX9_garnishes 80 = .ok (.iload 6, 2) := by decide +kernel
theorem dX9_garnishes_82 : decode cX9_garnishes 82 = .ok (.ifCond .eq 28, 3) := by decide +kernel
theorem dX9_garnishes_85 : decode cX9_garnishes 85 = .ok (.aload_n 0, 1) := by decide +kernel
theorem dX9_garnishes_86 : decode cX9_garnishes 86 = .ok (.getfield 46, 3) := by decide +kernel
theorem dX9_garnishes_89 : decode cX9_garnishes 89 = .ok (.iload 5, 2) := by decide +kernel
theorem dX9_garnishes_91 : decode cX9_garnishes 91 = .ok (.iaload, 1) := by decide +kernel
theorem dX9_garnishes_92 : decode cX9_garnishes 92 = .ok (.aload_n 0, 1) := by decide +kernel
theorem dX9_garnishes_93 : decode cX9_garnishes 93 = .ok (.getfield 49, 3) := by decide +kernel
theorem dX9_garnishes_96 : decode cX9_garnishes 96 = .ok (.iload 5, 2) := by decide +kernel
theorem dX9_garnishes_98 : decode cX9_garnishes 98 = .ok (.iaload, 1) := by decide +kernel
theorem dX9_garnishes_99 : decode cX9_garnishes 99 = .ok (.invokestatic 119, 3) := by decide +kernel
theorem dX9_garnishes_102 : decode cX9_garnishes 102 = .ok (.iload 7, 2) := by decide +kernel
theorem dX9_garnishes_104 : decode cX9_garnishes 104 = .ok (.invokestatic 119, 3) := by decide +kernel
theorem dX9_garnishes_107 : decode cX9_garnishes 107 = .ok (.goto 4, 3) := by decide +kernel
theorem dX9_garnishes_110 : decode cX9_garnishes 110 = .ok (.iconst 0, 1) := by decide +kernel
theorem dX9_garnishes_111 : decode cX9_garnishes 111 = .ok (.istore 8, 2) := by decide +kernel
theorem dX9_garnishes_113 : decode cX9_garnishes 113 = .ok (.aload_n 0, 1) := by decide +kernel
theorem dX9_garnishes_114 : decode cX9_garnishes 114 = .ok (.getfield 46, 3) := by decide +kernel
theorem dX9_garnishes_117 : decode cX9_garnishes 117 = .ok (.iload 5, 2) := by decide +kernel
theorem dX9_garnishes_119 : decode cX9_garnishes 119 = .ok (.dup2, 1) := by decide +kernel
theorem dX9_garnishes_120 : decode cX9_garnishes 120 = .ok (.iaload, 1) := by decide +kernel
theorem dX9_garnishes_121 : decode cX9_garnishes 121 = .ok (.iload 8, 2) := by decide +kernel
theorem dX9_garnishes_123 : decode cX9_garnishes 123 = .ok (.isub, 1) := by decide +kernel
theorem dX9_garnishes_124 : decode cX9_garnishes 124 = .ok (.iastore, 1) := by decide +kernel
theorem dX9_garnishes_125 : decode cX9_garnishes 125 = .ok (.iload_n 3, 1) := by decide +kernel
theorem dX9_garnishes_126 : decode cX9_garnishes 126 = .ok (.iload 8, 2) := by decide +kernel
theorem dX9_garnishes_128 : decode cX9_garnishes 128 = .ok (.isub, 1) := by decide +kernel
theorem dX9_garnishes_129 : decode cX9_garnishes 129 = .ok (.istore_n 3, 1) := by decide +kernel
theorem dX9_garnishes_130 : decode cX9_garnishes 130 = .ok (.iinc 4 1, 3) := by decide +kernel
theorem dX9_garnishes_133 : decode cX9_garnishes 133 = .ok (.goto (-128), 3) := by decide +kernel
theorem dX9_garnishes_136 : decode cX9_garnishes 136 = .ok (.iload_n 2, 1) := by decide +kernel
theorem dX9_garnishes_137 : decode cX9_garnishes 137 = .ok (.iload_n 3, 1) := by decide +kernel
theorem dX9_garnishes_138 : decode cX9_garnishes 138 = .ok (.isub, 1) := by decide +kernel
theorem dX9_garnishes_139 : decode cX9_garnishes 139 = .ok (.ireturn, 1) := by decide +kernel
set_option maxRecDepth 20000 in
theorem ggX9_pays_X9_least : GoodIn wsX9_pays wsX9_least := goodIn_r _ [10] (by decide +kernel) (by decide +kernel)
set_option maxRecDepth 20000 in
theorem gX9_pays_X9_least : GoodIn wsX9_pays (va_wsS RX9 119 yX9_least wsX9_least) := goodIn_app (goodIn_of _ (by decide +kernel)) ggX9_pays_X9_least
set_option maxRecDepth 20000 in
theorem ggX9_pays_X9_garnishes : GoodIn wsX9_pays wsX9_garnishes := goodIn_r _ [14, 15, 16, 17, 18, 19, 20, 7, 8, 9, 10, 21, 22, 23, 24, 25, 26, 27, 28, 29, 30, 31, 32, 33, 34, 35, 36, 37, 38, 39, 40, 41, 42, 43, 44, 45] (by decide +kernel) (by decide +kernel)
set_option maxRecDepth 20000 in
theorem gX9_pays_X9_garnishes : GoodIn wsX9_pays (wsV RX9 125 RX9 yX9_garnishes wsX9_garnishes) := goodIn_app (goodIn_of _ (by decide +kernel)) ggX9_pays_X9_garnishes
theorem dX9_pays_0 : decode cX9_pays 0 = .ok (.aload_n 0, 1) := by decide +kernel
theorem dX9_pays_1 : decode cX9_pays 1 = .ok (.getfield 7, 3) := by decide +kernel
theorem dX9_pays_4 : decode cX9_pays 4 = .ok (.iload_n 1, 1) := by decide +kernel
theorem dX9_pays_5 : decode cX9_pays 5 = .ok (.iaload, 1) := by decide +kernel
theorem dX9_pays_6 : decode cX9_pays 6 = .ok (.istore_n 3, 1) := by decide +kernel
theorem dX9_pays_7 : decode cX9_pays 7 = .ok (.iconst 4, 1) := by decide +kernel
theorem dX9_pays_8 : decode cX9_pays 8 = .ok (.bipush 31, 2) := by decide +kernel
theorem dX9_pays_10 : decode cX9_pays 10 = .ok (.iload_n 1, 1) := by decide +kernel
theorem dX9_pays_11 : decode cX9_pays 11 = .ok (.imul, 1) := by decide +kernel
theorem dX9_pays_12 : decode cX9_pays 12 = .ok (.aload_n 0, 1) := by decide +kernel
theorem dX9_pays_13 : decode cX9_pays 13 = .ok (.getfield 122, 3) := by decide +kernel
theorem dX9_pays_16 : decode cX9_pays 16 = .ok (.iadd, 1) := by decide +kernel
theorem dX9_pays_17 : decode cX9_pays 17 = .ok (.imul, 1) := by decide +kernel
theorem dX9_pays_18 : decode cX9_pays 18 = .ok (.istore 4, 2) := by decide +kernel
theorem dX9_pays_20 : decode cX9_pays 20 = .ok (.aload_n 0, 1) := by decide +kernel
theorem dX9_pays_21 : decode cX9_pays 21 = .ok (.getfield 34, 3) := by decide +kernel
theorem dX9_pays_24 : decode cX9_pays 24 = .ok (.iload_n 1, 1) := by decide +kernel
theorem dX9_pays_25 : decode cX9_pays 25 = .ok (.iaload, 1) := by decide +kernel
theorem dX9_pays_26 : decode cX9_pays 26 = .ok (.iload_n 2, 1) := by decide +kernel
theorem dX9_pays_27 : decode cX9_pays 27 = .ok (.bipush 10, 2) := by decide +kernel
theorem dX9_pays_29 : decode cX9_pays 29 = .ok (.idiv, 1) := by decide +kernel
theorem dX9_pays_30 : decode cX9_pays 30 = .ok (.invokestatic 119, 3) := by decide +kernel
theorem dX9_pays_33 : decode cX9_pays 33 = .ok (.istore 5, 2) := by decide +kernel
theorem dX9_pays_35 : decode cX9_pays 35 = .ok (.aload_n 0, 1) := by decide +kernel
theorem dX9_pays_36 : decode cX9_pays 36 = .ok (.getfield 31, 3) := by decide +kernel
theorem dX9_pays_39 : decode cX9_pays 39 = .ok (.iload_n 1, 1) := by decide +kernel
theorem dX9_pays_40 : decode cX9_pays 40 = .ok (.dup2, 1) := by decide +kernel
theorem dX9_pays_41 : decode cX9_pays 41 = .ok (.iaload, 1) := by decide +kernel
theorem dX9_pays_42 : decode cX9_pays 42 = .ok (.iload_n 2, 1) := by decide +kernel
theorem dX9_pays_43 : decode cX9_pays 43 = .ok (.iadd, 1) := by decide +kernel
theorem dX9_pays_44 : decode cX9_pays 44 = .ok (.iastore, 1) := by decide +kernel
theorem dX9_pays_45 : decode cX9_pays 45 = .ok (.aload_n 0, 1) := by decide +kernel
theorem dX9_pays_46 : decode cX9_pays 46 = .ok (.getfield 34, 3) := by decide +kernel
theorem dX9_pays_49 : decode cX9_pays 49 = .ok (.iload_n 1, 1) := by decide +kernel
theorem dX9_pays_50 : decode cX9_pays 50 = .ok (.dup2, 1) := by decide +kernel
theorem dX9_pays_51 : decode cX9_pays 51 = .ok (.iaload, 1) := by decide +kernel
theorem dX9_pays_52 : decode cX9_pays 52 = .ok (.iload 5, 2) := by decide +kernel
theorem dX9_pays_54 : decode cX9_pays 54 = .ok (.isub, 1) := by decide +kernel
theorem dX9_pays_55 : decode cX9_pays 55 = .ok (.iastore, 1) := by decide +kernel
theorem dX9_pays_56 : decode cX9_pays 56 = .ok (.aload_n 0, 1) := by decide +kernel
theorem dX9_pays_57 : decode cX9_pays 57 = .ok (.getfield 56, 3) := by decide +kernel
theorem dX9_pays_60 : decode cX9_pays 60 = .ok (.iload_n 3, 1) := by decide +kernel
theorem dX9_pays_61 : decode cX9_pays 61 = .ok (.dup2, 1) := by decide +kernel
theorem dX9_pays_62 : decode cX9_pays 62 = .ok (.iaload, 1) := by decide +kernel
theorem dX9_pays_63 : decode cX9_pays 63 = .ok (.iload 5, 2) := by decide +kernel
theorem dX9_pays_65 : decode cX9_pays 65 = .ok (.iload_n 2, 1) := by decide +kernel
theorem dX9_pays_66 : decode cX9_pays 66 = .ok (.isub, 1) := by decide +kernel
theorem dX9_pays_67 : decode cX9_pays 67 = .ok (.iadd, 1) := by decide +kernel
theorem dX9_pays_68 : decode cX9_pays 68 = .ok (.iastore, 1) := by decide +kernel
theorem dX9_pays_69 : decode cX9_pays 69 = .ok (.aload_n 0, 1) := by decide +kernel
theorem dX9_pays_70 : decode cX9_pays 70 = .ok (.getfield 37, 3) := by decide +kernel
theorem dX9_pays_73 : decode cX9_pays 73 = .ok (.iload 4, 2) := by decide +kernel
theorem dX9_pays_75 : decode cX9_pays 75 = .ok (.iconst 0, 1) := by decide +kernel
theorem dX9_pays_76 : decode cX9_pays 76 = .ok (.iadd, 1) := by decide +kernel
theorem dX9_pays_77 : decode cX9_pays 77 = .ok (.iload_n 2, 1) := by decide +kernel
theorem dX9_pays_78 : decode cX9_pays 78 = .ok (.iastore, 1) := by decide +kernel
theorem dX9_pays_79 : decode cX9_pays 79 = .ok (.aload_n 0, 1) := by decide +kernel
theorem dX9_pays_80 : decode cX9_pays 80 = .ok (.getfield 37, 3) := by decide +kernel
theorem dX9_pays_83 : decode cX9_pays 83 = .ok (.iload 4, 2) := by decide +kernel
theorem dX9_pays_85 : decode cX9_pays 85 = .ok (.iconst 1, 1) := by decide +kernel
theorem dX9_pays_86 : decode cX9_pays 86 = .ok (.iadd, 1) := by decide +kernel
theorem dX9_pays_87 : decode cX9_pays 87 = .ok (.iload 5, 2) := by decide +kernel
theorem dX9_pays_89 : decode cX9_pays 89 = .ok (.iastore, 1) := by decide +kernel
theorem dX9_pays_90 : decode cX9_pays 90 = .ok (.aload_n 0, 1) := by decide +kernel
theorem dX9_pays_91 : decode cX9_pays 91 = .ok (.getfield 37, 3) := by decide +kernel
theorem dX9_pays_94 : decode cX9_pays 94 = .ok (.iload 4, 2) := by decide +kernel
theorem dX9_pays_96 : decode cX9_pays 96 = .ok (.iconst 2, 1) := by decide +kernel
theorem dX9_pays_97 : decode cX9_pays 97 = .ok (.iadd, 1) := by decide +kernel
theorem dX9_pays_98 : decode cX9_pays 98 = .ok (.aload_n 0, 1) := by decide +kernel
theorem dX9_pays_99 : decode cX9_pays 99 = .ok (.iload_n 1, 1) := by decide +kernel
theorem dX9_pays_100 : decode cX9_pays 100 = .ok (.iload_n 2, 1) := by decide +kernel
theorem dX9_pays_101 : decode cX9_pays 101 = .ok (.iload 5, 2) := by decide +kernel
theorem dX9_pays_103 : decode cX9_pays 103 = .ok (.isub, 1) := by decide +kernel
theorem dX9_pays_104 : decode cX9_pays 104 = .ok (.invokevirtual 125, 3) := by decide +kernel
theorem dX9_pays_107 : decode cX9_pays 107 = .ok (.iastore, 1) := by decide +kernel
theorem dX9_pays_108 : decode cX9_pays 108 = .ok (.aload_n 0, 1) := by decide +kernel
theorem dX9_pays_109 : decode cX9_pays 109 = .ok (.getfield 37, 3) := by decide +kernel
theorem dX9_pays_112 : decode cX9_pays 112 = .ok (.iload 4, 2) := by decide +kernel
theorem dX9_pays_114 : decode cX9_pays 114 = .ok (.iconst 3, 1) := by decide +kernel
theorem dX9_pays_115 : decode cX9_pays 115 = .ok (.iadd, 1) := by decide +kernel
theorem dX9_pays_116 : decode cX9_pays 116 = .ok (.iload_n 2, 1) := by decide +kernel
theorem dX9_pays_117 : decode cX9_pays 117 = .ok (.iload 5, 2) := by decide +kernel
theorem dX9_pays_119 : decode cX9_pays 119 = .ok (.isub, 1) := by decide +kernel
theorem dX9_pays_120 : decode cX9_pays 120 = .ok (.aload_n 0, 1) := by decide +kernel
theorem dX9_pays_121 : decode cX9_pays 121 = .ok (.getfield 37, 3) := by decide +kernel
theorem dX9_pays_124 : decode cX9_pays 124 = .ok (.iload 4, 2) := by decide +kernel
theorem dX9_pays_126 : decode cX9_pays 126 = .ok (.iconst 2, 1) := by decide +kernel
theorem dX9_pays_127 : decode cX9_pays 127 = .ok (.iadd, 1) := by decide +kernel
theorem dX9_pays_128 : decode cX9_pays 128 = .ok (.iaload, 1) := by decide +kernel
theorem dX9_pays_129 : decode cX9_pays 129 = .ok (.isub, 1) := by decide +kernel
theorem dX9_pays_130 : decode cX9_pays 130 = .ok (.iastore, 1) := by decide +kernel
theorem dX9_pays_131 : decode cX9_pays 131 = .ok (.return_, 1) := by decide +kernel
set_option maxRecDepth 20000 in
theorem ggX9_close_X9_holds : GoodIn wsX9_close wsX9_holds := goodIn_r _ [11, 12, 52, 53, 54, 55, 56, 57, 58, 59, 60, 61, 62, 63, 64, 65, 66, 67, 68, 69, 70, 71, 72, 73, 74, 75, 76] (by decide +kernel) (by decide +kernel)
set_option maxRecDepth 20000 in
theorem gX9_close_X9_holds : GoodIn wsX9_close (wsV RX9 82 RX9 yX9_holds wsX9_holds) := goodIn_app (goodIn_of _ (by decide +kernel)) ggX9_close_X9_holds
set_option maxRecDepth 20000 in
theorem ggX9_close_X9_claimOf : GoodIn wsX9_close wsX9_claimOf := goodIn_r _ [16, 1, 4, 17, 18, 19, 10, 20, 21, 22, 23, 24, 25, 26, 27, 28, 29, 30, 31, 32, 33, 52, 53, 54, 55, 56, 57, 58, 59, 60, 61, 62, 63, 64, 65, 66, 67, 68, 69, 70, 71, 72, 73, 74, 75, 76] (by decide +kernel) (by decide +kernel)
set_option maxRecDepth 20000 in
theorem gX9_close_X9_claimOf : GoodIn wsX9_close (wsV RX9 128 RX9 yX9_claimOf wsX9_claimOf) := goodIn_app (goodIn_of _ (by decide +kernel)) ggX9_close_X9_claimOf
set_option maxRecDepth 20000 in
theorem ggX9_close_X9_pays : GoodIn wsX9_close wsX9_pays := goodIn_r _ [37, 6, 1, 3, 4, 5, 38, 39, 40, 10, 41, 42, 43, 44, 45, 46, 47, 48, 49, 50, 51, 52, 53, 54, 55, 56, 57, 58, 59, 60, 61, 62, 63, 64, 65, 66, 67, 68, 69, 70, 71, 72, 73, 74, 75, 76] (by decide +kernel) (by decide +kernel)
set_option maxRecDepth 20000 in
theorem gX9_close_X9_pays : GoodIn wsX9_close (wsV RX9 131 RX9 yX9_pays wsX9_pays) := goodIn_app (goodIn_of _ (by decide +kernel)) ggX9_close_X9_pays
theorem dX9_close_0 : decode cX9_close 0 = .ok (.aload_n 0, 1) := by decide +kernel
theorem dX9_close_1 : decode cX9_close 1 = .ok (.aload_n 0, 1) := by decide +kernel
theorem dX9_close_2 : decode cX9_close 2 = .ok (.getfield 122, 3) := by decide +kernel
theorem dX9_close_5 : decode cX9_close 5 = .ok (.bipush 31, 2) := by decide +kernel
theorem dX9_close_7 : decode cX9_close 7 = .ok (.if_icmp .ne 7, 3) := by decide +kernel
theorem dX9_close_10 : decode cX9_close 10 = .ok (.iconst 1, 1) := by decide +kernel
theorem dX9_close_11 : decode cX9_close 11 = .ok (.goto 4, 3) := by decide +kernel
theorem dX9_close_14 : decode cX9_close 14 = .ok (.iconst 0, 1) := by decide +kernel
theorem dX9_close_15 : decode cX9_close 15 = .ok (.invokevirtual 82, 3) := by decide +kernel
theorem dX9_close_18 : decode cX9_close 18 = .ok (.ifCond .ne 5, 3) := by decide +kernel
theorem dX9_close_21 : decode cX9_close 21 = .ok (.iconst 0, 1) := by decide +kernel
theorem dX9_close_22 : decode cX9_close 22 = .ok (.ireturn, 1) := by decide +kernel
theorem dX9_close_23 : decode cX9_close 23 = .ok (.iconst 0, 1) := by decide +kernel
theorem dX9_close_24 : decode cX9_close 24 = .ok (.istore_n 1, 1) := by decide +kernel
theorem dX9_close_25 : decode cX9_close 25 = .ok (.iconst 0, 1) := by decide +kernel
theorem dX9_close_26 : decode cX9_close 26 = .ok (.istore_n 2, 1) := by decide +kernel
theorem dX9_close_27 : decode cX9_close 27 = .ok (.iload_n 2, 1) := by decide +kernel
theorem dX9_close_28 : decode cX9_close 28 = .ok (.aload_n 0, 1) := by decide +kernel
theorem dX9_close_29 : decode cX9_close 29 = .ok (.getfield 75, 3) := by decide +kernel
theorem dX9_close_32 : decode cX9_close 32 = .ok (.if_icmp .ge 70, 3) := by decide +kernel
theorem dX9_close_35 : decode cX9_close 35 = .ok (.aload_n 0, 1) := by decide +kernel
theorem dX9_close_36 : decode cX9_close 36 = .ok (.iload_n 2, 1) := by decide +kernel
theorem dX9_close_37 : decode cX9_close 37 = .ok (.invokevirtual 128, 3) := by decide +kernel
theorem dX9_close_40 : decode cX9_close 40 = .ok (.istore_n 3, 1) := by decide +kernel
theorem dX9_close_41 : decode cX9_close 41 = .ok (.iload_n 3, 1) := by decide +kernel
theorem dX9_close_42 : decode cX9_close 42 = .ok (.ifCond .ge 26, 3) := by decide +kernel
theorem dX9_close_45 : decode cX9_close 45 = .ok (.aload_n 0, 1) := by decide +kernel
theorem dX9_close_46 : decode cX9_close 46 = .ok (.getfield 34, 3) := by decide +kernel
theorem dX9_close_49 : decode cX9_close 49 = .ok (.iload_n 2, 1) := by decide +kernel
theorem dX9_close_50 : decode cX9_close 50 = .ok (.dup2, 1) := by decide +kernel
theorem dX9_close_51 : decode cX9_close 51 = .ok (.iaload, 1) := by decide +kernel
theorem dX9_close_52 : decode cX9_close 52 = .ok (.iload_n 3, 1) := by decide +kernel
theorem dX9_close_53 : decode cX9_close 53 = .ok (.isub, 1) := by decide +kernel
theorem dX9_close_54 : decode cX9_close 54 = .ok (.iastore, 1) := by decide +kernel
theorem dX9_close_55 : decode cX9_close 55 = .ok (.aload_n 0, 1) := by decide +kernel
theorem dX9_close_56 : decode cX9_close 56 = .ok (.getfield 31, 3) := by decide +kernel
theorem dX9_close_59 : decode cX9_close 59 = .ok (.iload_n 2, 1) := by decide +kernel
theorem dX9_close_60 : decode cX9_close 60 = .ok (.dup2, 1) := by decide +kernel
theorem dX9_close_61 : decode cX9_close 61 = .ok (.iaload, 1) := by decide +kernel
theorem dX9_close_62 : decode cX9_close 62 = .ok (.iload_n 3, 1) := by decide +kernel
theorem dX9_close_63 : decode cX9_close 63 = .ok (.iadd, 1) := by decide +kernel
theorem dX9_close_64 : decode cX9_close 64 = .ok (.iastore, 1) := by decide +kernel
theorem dX9_close_65 : decode cX9_close 65 = .ok (.goto 31, 3) := by decide +kernel
theorem dX9_close_68 : decode cX9_close 68 = .ok (.iload_n 3, 1) := by decide +kernel
theorem dX9_close_69 : decode cX9_close 69 = .ok (.ifCond .le 27, 3) := by decide +kernel
theorem dX9_close_72 : decode cX9_close 72 = .ok (.aload_n 0, 1) := by decide +kernel
theorem dX9_close_73 : decode cX9_close 73 = .ok (.getfield 56, 3) := by decide +kernel
theorem dX9_close_76 : decode cX9_close 76 = .ok (.aload_n 0, 1) := by decide +kernel
theorem dX9_close_77 : decode cX9_close 77 = .ok (.getfield 7, 3) := by decide +kernel
theorem dX9_close_80 : decode cX9_close 80 = .ok (.iload_n 2, 1) := by decide +kernel
theorem dX9_close_81 : decode cX9_close 81 = .ok (.iaload, 1) := by decide +kernel
theorem dX9_close_82 : decode cX9_close 82 = .ok (.iaload, 1) := by decide +kernel
theorem dX9_close_83 : decode cX9_close 83 = .ok (.iload_n 3, 1) := by decide +kernel
theorem dX9_close_84 : decode cX9_close 84 = .ok (.if_icmp .lt 12, 3) := by decide +kernel
theorem dX9_close_87 : decode cX9_close 87 = .ok (.aload_n 0, 1) := by decide +kernel
theorem dX9_close_88 : decode cX9_close 88 = .ok (.iload_n 2, 1) := by decide +kernel
theorem dX9_close_89 : decode cX9_close 89 = .ok (.iload_n 3, 1) := by decide +kernel
theorem dX9_close_90 : decode cX9_close 90 = .ok (.invokevirtual 131, 3) := by decide +kernel
theorem dX9_close_93 : decode cX9_close 93 = .ok (.iinc 1 1, 3) := by decide +kernel
theorem dX9_close_96 : decode cX9_close 96 = .ok (.iinc 2 1, 3) := by decide +kernel
theorem dX9_close_99 : decode cX9_close 99 = .ok (.goto (-72), 3) := by decide +kernel
theorem dX9_close_102 : decode cX9_close 102 = .ok (.aload_n 0, 1) := by decide +kernel
theorem dX9_close_103 : decode cX9_close 103 = .ok (.dup, 1) := by decide +kernel
theorem dX9_close_104 : decode cX9_close 104 = .ok (.getfield 122, 3) := by decide +kernel
theorem dX9_close_107 : decode cX9_close 107 = .ok (.iconst 1, 1) := by decide +kernel
theorem dX9_close_108 : decode cX9_close 108 = .ok (.iadd, 1) := by decide +kernel
theorem dX9_close_109 : decode cX9_close 109 = .ok (.putfield 122, 3) := by decide +kernel
theorem dX9_close_112 : decode cX9_close 112 = .ok (.iload_n 1, 1) := by decide +kernel
theorem dX9_close_113 : decode cX9_close 113 = .ok (.ireturn, 1) := by decide +kernel
theorem dX9_week_0 : decode cX9_week 0 = .ok (.aload_n 0, 1) := by decide +kernel
theorem dX9_week_1 : decode cX9_week 1 = .ok (.iconst 0, 1) := by decide +kernel
theorem dX9_week_2 : decode cX9_week 2 = .ok (.putfield 72, 3) := by decide +kernel
theorem dX9_week_5 : decode cX9_week 5 = .ok (.aload_n 0, 1) := by decide +kernel
theorem dX9_week_6 : decode cX9_week 6 = .ok (.getfield 122, 3) := by decide +kernel
theorem dX9_week_9 : decode cX9_week 9 = .ok (.ireturn, 1) := by decide +kernel
set_option maxRecDepth 20000 in
theorem ggX9_slip_X9_isWorker : GoodIn wsX9_slip wsX9_isWorker := goodIn_r _ [6, 7, 8, 9, 5, 10, 19, 20, 21, 22, 23, 24, 25, 26, 27, 28, 29, 30, 31, 32, 33, 34, 35, 36, 37, 38, 39, 40, 41, 42, 43] (by decide +kernel) (by decide +kernel)
set_option maxRecDepth 20000 in
theorem gX9_slip_X9_isWorker : GoodIn wsX9_slip (wsV RX9 86 RX9 yX9_isWorker wsX9_isWorker) := goodIn_app (goodIn_of _ (by decide +kernel)) ggX9_slip_X9_isWorker
set_option maxRecDepth 20000 in
theorem ggX9_slip_X9_isWeek : GoodIn wsX9_slip wsX9_isWeek := goodIn_r _ [13, 8, 9, 5, 10] (by decide +kernel) (by decide +kernel)
set_option maxRecDepth 20000 in
theorem gX9_slip_X9_isWeek : GoodIn wsX9_slip (va_wsS RX9 89 yX9_isWeek wsX9_isWeek) := goodIn_app (goodIn_of _ (by decide +kernel)) ggX9_slip_X9_isWeek
set_option maxRecDepth 20000 in
theorem ggX9_slip_X9_in : GoodIn wsX9_slip wsX9_in := goodIn_r _ [10] (by decide +kernel) (by decide +kernel)
set_option maxRecDepth 20000 in
theorem gX9_slip_X9_in : GoodIn wsX9_slip (va_wsS RX9 78 yX9_in wsX9_in) := goodIn_app (goodIn_of _ (by decide +kernel)) ggX9_slip_X9_in
set_option maxRecDepth 20000 in
theorem ggX9_slip_X9_holds : GoodIn wsX9_slip wsX9_holds := goodIn_r _ [17, 18, 19, 20, 21, 22, 23, 24, 25, 26, 27, 28, 29, 30, 31, 32, 33, 34, 35, 36, 37, 38, 39, 40, 41, 42, 43] (by decide +kernel) (by decide +kernel)
set_option maxRecDepth 20000 in
theorem gX9_slip_X9_holds : GoodIn wsX9_slip (wsV RX9 82 RX9 yX9_holds wsX9_holds) := goodIn_app (goodIn_of _ (by decide +kernel)) ggX9_slip_X9_holds
theorem dX9_slip_0 : decode cX9_slip 0 = .ok (.aload_n 0, 1) := by decide +kernel
theorem dX9_slip_1 : decode cX9_slip 1 = .ok (.aload_n 0, 1) := by decide +kernel
theorem dX9_slip_2 : decode cX9_slip 2 = .ok (.iload_n 1, 1) := by decide +kernel
theorem dX9_slip_3 : decode cX9_slip 3 = .ok (.invokevirtual 86, 3) := by decide +kernel
theorem dX9_slip_6 : decode cX9_slip 6 = .ok (.ifCond .ne 7, 3) := by decide +kernel
theorem dX9_slip_9 : decode cX9_slip 9 = .ok (.iconst 1, 1) := by decide +kernel
theorem dX9_slip_10 : decode cX9_slip 10 = .ok (.goto 24, 3) := by decide +kernel
theorem dX9_slip_13 : decode cX9_slip 13 = .ok (.iload_n 2, 1) := by decide +kernel
theorem dX9_slip_14 : decode cX9_slip 14 = .ok (.invokestatic 89, 3) := by decide +kernel
theorem dX9_slip_17 : decode cX9_slip 17 = .ok (.ifCond .eq 16, 3) := by decide +kernel
theorem dX9_slip_20 : decode cX9_slip 20 = .ok (.iload_n 3, 1) := by decide +kernel
theorem dX9_slip_21 : decode cX9_slip 21 = .ok (.iconst 0, 1) := by decide +kernel
theorem dX9_slip_22 : decode cX9_slip 22 = .ok (.iconst 3, 1) := by decide +kernel
theorem dX9_slip_23 : decode cX9_slip 23 = .ok (.invokestatic 78, 3) := by decide +kernel
theorem dX9_slip_26 : decode cX9_slip 26 = .ok (.ifCond .eq 7, 3) := by decide +kernel
theorem dX9_slip_29 : decode cX9_slip 29 = .ok (.iconst 0, 1) := by decide +kernel
theorem dX9_slip_30 : decode cX9_slip 30 = .ok (.goto 4, 3) := by decide +kernel
theorem dX9_slip_33 : decode cX9_slip 33 = .ok (.iconst 2, 1) := by decide +kernel
theorem dX9_slip_34 : decode cX9_slip 34 = .ok (.invokevirtual 82, 3) := by decide +kernel
theorem dX9_slip_37 : decode cX9_slip 37 = .ok (.ifCond .ne 5, 3) := by decide +kernel
theorem dX9_slip_40 : decode cX9_slip 40 = .ok (.iconst 0, 1) := by decide +kernel
theorem dX9_slip_41 : decode cX9_slip 41 = .ok (.ireturn, 1) := by decide +kernel
theorem dX9_slip_42 : decode cX9_slip 42 = .ok (.aload_n 0, 1) := by decide +kernel
theorem dX9_slip_43 : decode cX9_slip 43 = .ok (.getfield 37, 3) := by decide +kernel
theorem dX9_slip_46 : decode cX9_slip 46 = .ok (.iconst 4, 1) := by decide +kernel
theorem dX9_slip_47 : decode cX9_slip 47 = .ok (.bipush 31, 2) := by decide +kernel
theorem dX9_slip_49 : decode cX9_slip 49 = .ok (.iload_n 1, 1) := by decide +kernel
theorem dX9_slip_50 : decode cX9_slip 50 = .ok (.imul, 1) := by decide +kernel
theorem dX9_slip_51 : decode cX9_slip 51 = .ok (.iload_n 2, 1) := by decide +kernel
theorem dX9_slip_52 : decode cX9_slip 52 = .ok (.iadd, 1) := by decide +kernel
theorem dX9_slip_53 : decode cX9_slip 53 = .ok (.imul, 1) := by decide +kernel
theorem dX9_slip_54 : decode cX9_slip 54 = .ok (.iload_n 3, 1) := by decide +kernel
theorem dX9_slip_55 : decode cX9_slip 55 = .ok (.iadd, 1) := by decide +kernel
theorem dX9_slip_56 : decode cX9_slip 56 = .ok (.iaload, 1) := by decide +kernel
theorem dX9_slip_57 : decode cX9_slip 57 = .ok (.ireturn, 1) := by decide +kernel
set_option maxRecDepth 20000 in
theorem ggX9_toTakeBack_X9_isWorker : GoodIn wsX9_toTakeBack wsX9_isWorker := goodIn_r _ [6, 7, 8, 9, 5, 10, 16, 17, 18, 19, 20, 21, 22, 23, 24, 25, 26, 27, 28, 29, 30, 31, 32, 33, 34, 35, 36, 37, 38, 39, 40] (by decide +kernel) (by decide +kernel)
set_option maxRecDepth 20000 in
theorem gX9_toTakeBack_X9_isWorker : GoodIn wsX9_toTakeBack (wsV RX9 86 RX9 yX9_isWorker wsX9_isWorker) := goodIn_app (goodIn_of _ (by decide +kernel)) ggX9_toTakeBack_X9_isWorker
set_option maxRecDepth 20000 in
theorem ggX9_toTakeBack_X9_holds : GoodIn wsX9_toTakeBack wsX9_holds := goodIn_r _ [14, 15, 16, 17, 18, 19, 20, 21, 22, 23, 24, 25, 26, 27, 28, 29, 30, 31, 32, 33, 34, 35, 36, 37, 38, 39, 40] (by decide +kernel) (by decide +kernel)
set_option maxRecDepth 20000 in
theorem gX9_toTakeBack_X9_holds : GoodIn wsX9_toTakeBack (wsV RX9 82 RX9 yX9_holds wsX9_holds) := goodIn_app (goodIn_of _ (by decide +kernel)) ggX9_toTakeBack_X9_holds
theorem dX9_toTakeBack_0 : decode cX9_toTakeBack 0 = .ok (.aload_n 0, 1) := by decide +kernel
theorem dX9_toTakeBack_1 : decode cX9_toTakeBack 1 = .ok (.aload_n 0, 1) := by decide +kernel
theorem dX9_toTakeBack_2 : decode cX9_toTakeBack 2 = .ok (.iload_n 1, 1) := by decide +kernel
theorem dX9_toTakeBack_3 : decode cX9_toTakeBack 3 = .ok (.invokevirtual 86, 3) := by decide +kernel
theorem dX9_toTakeBack_6 : decode cX9_toTakeBack 6 = .ok (.ifCond .eq 7, 3) := by decide +kernel
theorem dX9_toTakeBack_9 : decode cX9_toTakeBack 9 = .ok (.iconst 0, 1) := by decide +kernel
theorem dX9_toTakeBack_10 : decode cX9_toTakeBack 10 = .ok (.goto 4, 3) := by decide +kernel
theorem dX9_toTakeBack_13 : decode cX9_toTakeBack 13 = .ok (.iconst 1, 1) := by decide +kernel
theorem dX9_toTakeBack_14 : decode cX9_toTakeBack 14 = .ok (.invokevirtual 82, 3) := by decide +kernel
theorem dX9_toTakeBack_17 : decode cX9_toTakeBack 17 = .ok (.ifCond .eq 12, 3) := by decide +kernel
theorem dX9_toTakeBack_20 : decode cX9_toTakeBack 20 = .ok (.aload_n 0, 1) := by decide +kernel
theorem dX9_toTakeBack_21 : decode cX9_toTakeBack 21 = .ok (.getfield 34, 3) := by decide +kernel
theorem dX9_toTakeBack_24 : decode cX9_toTakeBack 24 = .ok (.iload_n 1, 1) := by decide +kernel
theorem dX9_toTakeBack_25 : decode cX9_toTakeBack 25 = .ok (.iaload, 1) := by decide +kernel
theorem dX9_toTakeBack_26 : decode cX9_toTakeBack 26 = .ok (.goto 4, 3) := by decide +kernel
theorem dX9_toTakeBack_29 : decode cX9_toTakeBack 29 = .ok (.iconst 0, 1) := by decide +kernel
theorem dX9_toTakeBack_30 : decode cX9_toTakeBack 30 = .ok (.ireturn, 1) := by decide +kernel
set_option maxRecDepth 20000 in
theorem ggX9_claim_X9_isWorker : GoodIn wsX9_claim wsX9_isWorker := goodIn_r _ [5, 6, 7, 8, 4, 9, 38, 39, 40, 41, 42, 43, 44, 45, 46, 47, 48, 49, 50, 51, 52, 53, 54, 55, 56, 57, 58, 59, 60, 61, 62] (by decide +kernel) (by decide +kernel)
set_option maxRecDepth 20000 in
theorem gX9_claim_X9_isWorker : GoodIn wsX9_claim (wsV RX9 86 RX9 yX9_isWorker wsX9_isWorker) := goodIn_app (goodIn_of _ (by decide +kernel)) ggX9_claim_X9_isWorker
set_option maxRecDepth 20000 in
theorem ggX9_claim_X9_holds : GoodIn wsX9_claim wsX9_holds := goodIn_r _ [13, 14, 38, 39, 40, 41, 42, 43, 44, 45, 46, 47, 48, 49, 50, 51, 52, 53, 54, 55, 56, 57, 58, 59, 60, 61, 62] (by decide +kernel) (by decide +kernel)
set_option maxRecDepth 20000 in
theorem gX9_claim_X9_holds : GoodIn wsX9_claim (wsV RX9 82 RX9 yX9_holds wsX9_holds) := goodIn_app (goodIn_of _ (by decide +kernel)) ggX9_claim_X9_holds
set_option maxRecDepth 20000 in
theorem ggX9_claim_X9_claimOf : GoodIn wsX9_claim wsX9_claimOf := goodIn_r _ [18, 19, 20, 21, 22, 23, 4, 24, 25, 26, 27, 28, 29, 30, 31, 32, 33, 34, 35, 36, 37, 38, 39, 40, 41, 42, 43, 44, 45, 46, 47, 48, 49, 50, 51, 52, 53, 54, 55, 56, 57, 58, 59, 60, 61, 62] (by decide +kernel) (by decide +kernel)
set_option maxRecDepth 20000 in
theorem gX9_claim_X9_claimOf : GoodIn wsX9_claim (wsV RX9 128 RX9 yX9_claimOf wsX9_claimOf) := goodIn_app (goodIn_of _ (by decide +kernel)) ggX9_claim_X9_claimOf
theorem dX9_claim_0 : decode cX9_claim 0 = .ok (.aload_n 0, 1) := by decide +kernel
theorem dX9_claim_1 : decode cX9_claim 1 = .ok (.aload_n 0, 1) := by decide +kernel
theorem dX9_claim_2 : decode cX9_claim 2 = .ok (.iload_n 1, 1) := by decide +kernel
theorem dX9_claim_3 : decode cX9_claim 3 = .ok (.invokevirtual 86, 3) := by decide +kernel
theorem dX9_claim_6 : decode cX9_claim 6 = .ok (.ifCond .eq 7, 3) := by decide +kernel
theorem dX9_claim_9 : decode cX9_claim 9 = .ok (.iconst 0, 1) := by decide +kernel
theorem dX9_claim_10 : decode cX9_claim 10 = .ok (.goto 4, 3) := by decide +kernel
theorem dX9_claim_13 : decode cX9_claim 13 = .ok (.iconst 1, 1) := by decide +kernel
theorem dX9_claim_14 : decode cX9_claim 14 = .ok (.invokevirtual 82, 3) := by decide +kernel
theorem dX9_claim_17 : decode cX9_claim 17 = .ok (.ifCond .eq 11, 3) := by decide +kernel
theorem dX9_claim_20 : decode cX9_claim 20 = .ok (.aload_n 0, 1) := by decide +kernel
theorem dX9_claim_21 : decode cX9_claim 21 = .ok (.iload_n 1, 1) := by decide +kernel
theorem dX9_claim_22 : decode cX9_claim 22 = .ok (.invokevirtual 128, 3) := by decide +kernel
theorem dX9_claim_25 : decode cX9_claim 25 = .ok (.goto 4, 3) := by decide +kernel
theorem dX9_claim_28 : decode cX9_claim 28 = .ok (.iconst 0, 1) := by decide +kernel
theorem dX9_claim_29 : decode cX9_claim 29 = .ok (.ireturn, 1) := by decide +kernel
set_option maxRecDepth 20000 in
theorem ggX9_claimBySlips_X9_isWorker : GoodIn wsX9_claimBySlips wsX9_isWorker := goodIn_r _ [5, 6, 7, 8, 4, 9, 38, 39, 40, 41, 42, 43, 44, 45, 46, 47, 48, 49, 50, 51, 52, 53, 54, 55, 56, 57, 58, 59, 60, 61, 62] (by decide +kernel) (by decide +kernel)
set_option maxRecDepth 20000 in
theorem gX9_claimBySlips_X9_isWorker : GoodIn wsX9_claimBySlips (wsV RX9 86 RX9 yX9_isWorker wsX9_isWorker) := goodIn_app (goodIn_of _ (by decide +kernel)) ggX9_claimBySlips_X9_isWorker
set_option maxRecDepth 20000 in
theorem ggX9_claimBySlips_X9_holds : GoodIn wsX9_claimBySlips wsX9_holds := goodIn_r _ [13, 14, 38, 39, 40, 41, 42, 43, 44, 45, 46, 47, 48, 49, 50, 51, 52, 53, 54, 55, 56, 57, 58, 59, 60, 61, 62] (by decide +kernel) (by decide +kernel)
set_option maxRecDepth 20000 in
theorem gX9_claimBySlips_X9_holds : GoodIn wsX9_claimBySlips (wsV RX9 82 RX9 yX9_holds wsX9_holds) := goodIn_app (goodIn_of _ (by decide +kernel)) ggX9_claimBySlips_X9_holds
set_option maxRecDepth 20000 in
theorem ggX9_claimBySlips_X9_claimOf : GoodIn wsX9_claimBySlips wsX9_claimOf := goodIn_r _ [18, 19, 20, 21, 22, 23, 4, 24, 25, 26, 27, 28, 29, 30, 31, 32, 33, 34, 35, 36, 37, 38, 39, 40, 41, 42, 43, 44, 45, 46, 47, 48, 49, 50, 51, 52, 53, 54, 55, 56, 57, 58, 59, 60, 61, 62] (by decide +kernel) (by decide +kernel)
set_option maxRecDepth 20000 in
theorem gX9_claimBySlips_X9_claimOf : GoodIn wsX9_claimBySlips (wsV RX9 128 RX9 yX9_claimOf wsX9_claimOf) := goodIn_app (goodIn_of _ (by decide +kernel)) ggX9_claimBySlips_X9_claimOf
theorem dX9_claimBySlips_0 : decode cX9_claimBySlips 0 = .ok (.aload_n 0, 1) := by decide +kernel
theorem dX9_claimBySlips_1 : decode cX9_claimBySlips 1 = .ok (.aload_n 0, 1) := by decide +kernel
theorem dX9_claimBySlips_2 : decode cX9_claimBySlips 2 = .ok (.iload_n 1, 1) := by decide +kernel
theorem dX9_claimBySlips_3 : decode cX9_claimBySlips 3 = .ok (.invokevirtual 86, 3) := by decide +kernel
theorem dX9_claimBySlips_6 : decode cX9_claimBySlips 6 = .ok (.ifCond .eq 7, 3) := by decide +kernel
theorem dX9_claimBySlips_9 : decode cX9_claimBySlips 9 = .ok (.iconst 0, 1) := by decide +kernel
theorem dX9_claimBySlips_10 : decode cX9_claimBySlips 10 = .ok (.goto 4, 3) := by decide +kernel
theorem dX9_claimBySlips_13 : decode cX9_claimBySlips 13 = .ok (.iconst 1, 1) := by decide +kernel
theorem dX9_claimBySlips_14 : decode cX9_claimBySlips 14 = .ok (.invokevirtual 82, 3) := by decide +kernel
theorem dX9_claimBySlips_17 : decode cX9_claimBySlips 17 = .ok (.ifCond .eq 11, 3) := by decide +kernel
theorem dX9_claimBySlips_20 : decode cX9_claimBySlips 20 = .ok (.aload_n 0, 1) := by decide +kernel
theorem dX9_claimBySlips_21 : decode cX9_claimBySlips 21 = .ok (.iload_n 1, 1) := by decide +kernel
theorem dX9_claimBySlips_22 : decode cX9_claimBySlips 22 = .ok (.invokevirtual 128, 3) := by decide +kernel
theorem dX9_claimBySlips_25 : decode cX9_claimBySlips 25 = .ok (.goto 4, 3) := by decide +kernel
theorem dX9_claimBySlips_28 : decode cX9_claimBySlips 28 = .ok (.iconst 0, 1) := by decide +kernel
theorem dX9_claimBySlips_29 : decode cX9_claimBySlips 29 = .ok (.ireturn, 1) := by decide +kernel
theorem dJ9_max_7cf53_0 : decode cJ9_max_7cf53 0 = .ok (.iload_n 0, 1) := by decide +kernel
theorem dJ9_max_7cf53_1 : decode cJ9_max_7cf53 1 = .ok (.iload_n 1, 1) := by decide +kernel
theorem dJ9_max_7cf53_2 : decode cJ9_max_7cf53 2 = .ok (.if_icmp .lt 7, 3) := by decide +kernel
theorem dJ9_max_7cf53_5 : decode cJ9_max_7cf53 5 = .ok (.iload_n 0, 1) := by decide +kernel
theorem dJ9_max_7cf53_6 : decode cJ9_max_7cf53 6 = .ok (.goto 4, 3) := by decide +kernel
theorem dJ9_max_7cf53_9 : decode cJ9_max_7cf53 9 = .ok (.iload_n 1, 1) := by decide +kernel
theorem dJ9_max_7cf53_10 : decode cJ9_max_7cf53 10 = .ok (.ireturn, 1) := by decide +kernel
theorem dJ9_min_7cf53_0 : decode cJ9_min_7cf53 0 = .ok (.iload_n 0, 1) := by decide +kernel
theorem dJ9_min_7cf53_1 : decode cJ9_min_7cf53 1 = .ok (.iload_n 1, 1) := by decide +kernel
theorem dJ9_min_7cf53_2 : decode cJ9_min_7cf53 2 = .ok (.if_icmp .gt 7, 3) := by decide +kernel
theorem dJ9_min_7cf53_5 : decode cJ9_min_7cf53 5 = .ok (.iload_n 0, 1) := by decide +kernel
theorem dJ9_min_7cf53_6 : decode cJ9_min_7cf53 6 = .ok (.goto 4, 3) := by decide +kernel
theorem dJ9_min_7cf53_9 : decode cJ9_min_7cf53 9 = .ok (.iload_n 1, 1) := by decide +kernel
theorem dJ9_min_7cf53_10 : decode cJ9_min_7cf53 10 = .ok (.ireturn, 1) := by decide +kernel
set_option maxRecDepth 20000 in
theorem ggL_addWorker_X8_addWorker : GoodIn wsL_addWorker wsX8_addWorker := goodIn_ca (goodIn_ca (goodIn_r _ [7, 8, 9, 10, 11, 12, 13, 14, 15, 16, 17, 6, 18, 19, 20, 21, 22, 23, 24, 25, 26, 27, 28, 29, 30, 31, 32, 33, 34, 35, 36, 37, 38, 39, 40, 41, 42, 43, 44, 45, 46, 47, 48, 49, 50, 51, 52, 53, 54, 55, 56, 57, 58, 59, 60, 61, 62, 63, 64, 65, 66, 67, 68] (by decide +kernel) (by decide +kernel)) (goodIn_sub (fun _ h => List.mem_cons_of_mem _ (List.mem_append_left _ (List.mem_append_right _ h))) (by decide +kernel))) (goodIn_sub (fun _ h => List.mem_cons_of_mem _ (List.mem_append_right _ h)) (by decide +kernel))
set_option maxRecDepth 20000 in
theorem gL_addWorker_X8_addWorker : GoodIn wsL_addWorker (wsV RL 7 RX8 yX8_addWorker wsX8_addWorker) := goodIn_app (goodIn_of _ (by decide +kernel)) ggL_addWorker_X8_addWorker
end
section
abbrev vwCl : List vw_C := [(RX0, TX0, 4), (RX1, TX1, 2), (RX2, TX2, 2), (RX3, TX3, 2), (RX4, TX4, 3), (RX5, TX5, 4), (RX6, TX6, 3), (RX7, TX7, 8), (RX8, TX8, 10), (RX9, TX9, 25)]
/-! FUNCTIONAL WORLDS: a world is a partial function from addresses to contents; every contract carries the whole world of its side -/
abbrev fw_F : Type := Nat → Option va_E
def fw_P (D : va_G) (A : Nat → Prop) (f : fw_F) (H : Heap) : Prop := (∀ a e, f a = some e → va_at D vwCl (a, e) H) ∧ ∀ a e, f a = some e → A a
def fw_up (f : fw_F) (a : Nat) (e : va_E) : fw_F := fun j => if j = a then some e else f j
theorem fw_up_s {f : fw_F} {a : Nat} {e : va_E} : fw_up f a e a = some e := if_pos rfl
theorem fw_up_n {f : fw_F} {a b : Nat} {e : va_E} (h : b ≠ a) : fw_up f a e b = f b := if_neg h
theorem fw_up_k {f : fw_F} {a b : Nat} {e e2 : va_E} (h : f b = some e2) (hn : f a = none) : fw_up f a e b = some e2 := by
  rw [fw_up_n]
  · exact h
  · intro q
    rw [q, hn] at h
    cases h
/-- the world as a list, of the addresses below n -/
def fw_L (f : fw_F) : Nat → va_W
  | 0 => []
  | n + 1 => match f n with
    | some e => fw_L f n ++ [(n, e)]
    | none => fw_L f n
theorem fw_L_mem {f : fw_F} : ∀ (n : Nat) (q : Nat × va_E), q ∈ fw_L f n ↔ q.1 < n ∧ f q.1 = some q.2 := by
  intro n
  induction n with
  | zero => intro q; simp [fw_L]
  | succ n ih =>
    intro q
    obtain ⟨a, e⟩ := q
    unfold fw_L
    cases h : f n with
    | none =>
      simp only [ih]
      constructor
      · rintro ⟨h1, h2⟩
        exact ⟨by omega, h2⟩
      · rintro ⟨h1, h2⟩
        refine ⟨?_, h2⟩
        rcases Nat.lt_or_ge a n with z | z
        · exact z
        · have : a = n := by omega
          subst this
          rw [h] at h2
          cases h2
    | some e0 =>
      simp only [List.mem_append, ih, List.mem_singleton, Prod.mk.injEq]
      constructor
      · rintro (⟨h1, h2⟩ | ⟨h1, h2⟩)
        · exact ⟨by omega, h2⟩
        · subst h1; subst h2
          exact ⟨by omega, h⟩
      · rintro ⟨h1, h2⟩
        rcases Nat.lt_or_ge a n with z | z
        · exact Or.inl ⟨z, h2⟩
        · have : a = n := by omega
          subst this
          rw [h] at h2
          cases h2
          exact Or.inr ⟨rfl, rfl⟩
theorem fw_L_nd {f : fw_F} : ∀ (n i j : Nat) (p q : Nat × va_E), (fw_L f n)[i]? = some p → (fw_L f n)[j]? = some q → p.1 = q.1 → i = j := by
  intro n
  induction n with
  | zero => intro i j p q h; simp [fw_L] at h
  | succ n ih =>
    intro i j p q hi hj hpq
    unfold fw_L at hi hj
    cases h : f n with
    | none => rw [h] at hi hj; exact ih i j p q hi hj hpq
    | some e0 =>
      rw [h] at hi hj
      have key : ∀ (k : Nat) (r : Nat × va_E), (fw_L f n ++ [(n, e0)])[k]? = some r → ((fw_L f n)[k]? = some r ∧ r.1 < n) ∨ (k = (fw_L f n).length ∧ r.1 = n) := by
        intro k r hk
        by_cases hl : k < (fw_L f n).length
        · rw [List.getElem?_append_left hl] at hk
          exact Or.inl ⟨hk, ((fw_L_mem n r).mp (List.mem_of_getElem? hk)).1⟩
        · rw [List.getElem?_append_right (by omega)] at hk
          have hz : k - (fw_L f n).length < 1 := (List.getElem?_eq_some_iff.mp hk).1
          have hk0 : k = (fw_L f n).length := by omega
          subst hk0
          rw [Nat.sub_self] at hk
          cases hk
          exact Or.inr ⟨rfl, rfl⟩
      rcases key i p hi with ⟨h1, l1⟩ | ⟨h1, l1⟩ <;> rcases key j q hj with ⟨h2, l2⟩ | ⟨h2, l2⟩
      · exact ih i j p q h1 h2 hpq
      · omega
      · omega
      · omega
theorem fw_P.lt {D : va_G} {A : Nat → Prop} {f : fw_F} {H : Heap} (h : fw_P D A f H) {a : Nat} {e : va_E} (hf : f a = some e) : a < H.size := (h.1 a e hf).lt
theorem fw_P.lP {D : va_G} {A : Nat → Prop} {f : fw_F} {H : Heap} (h : fw_P D A f H) : va_P D vwCl (fw_L f H.size) H := by
  intro k q hk
  obtain ⟨a, e⟩ := q
  exact h.1 a e ((fw_L_mem _ (a, e)).mp (List.mem_of_getElem? hk)).2
theorem fw_P.lD {D : va_G} {A : Nat → Prop} {f : fw_F} {H : Heap} (h : fw_P D A f H) : va_D A (fw_L f H.size) := ⟨fw_L_nd _, fun k q hk => h.2 q.1 q.2 ((fw_L_mem _ q).mp (List.mem_of_getElem? hk)).2⟩
theorem fw_P.ix {D : va_G} {A : Nat → Prop} {f : fw_F} {H : Heap} (h : fw_P D A f H) {a : Nat} {e : va_E} (hf : f a = some e) : ∃ k : Nat, (fw_L f H.size)[k]? = some (a, e) := List.getElem?_of_mem ((fw_L_mem _ (a, e)).mpr ⟨h.lt hf, hf⟩)
theorem fw_P.one {D : va_G} {A : Nat → Prop} {f : fw_F} {H : Heap} (h : fw_P D A f H) {a : Nat} {e : va_E} (hf : f a = some e) : va_P D vwCl [(a, e)] H := by
  intro k q hk
  have hz : k < 1 := (List.getElem?_eq_some_iff.mp hk).1
  rw [show k = 0 by omega] at hk
  cases hk
  exact h.1 a e hf
theorem fw_P.st {D : va_G} {A : Nat → Prop} {f : fw_F} {H H1 : Heap} (h : fw_P D A f H) {a k : Nat} {e0 e : va_E} (hk : (fw_L f H.size)[k]? = some (a, e0)) (h1 : va_P D vwCl ((fw_L f H.size).set k (a, e)) H1) : fw_P D A (fw_up f a e) H1 := by
  have hf0 : f a = some e0 := ((fw_L_mem _ (a, e0)).mp (List.mem_of_getElem? hk)).2
  have hl := (List.getElem?_eq_some_iff.mp hk).1
  refine ⟨fun b e2 hb => ?_, fun b e2 hb => ?_⟩
  · by_cases hba : b = a
    · subst hba
      rw [fw_up_s] at hb
      cases hb
      exact h1 k (b, e) (by rw [List.getElem?_set_self hl])
    · rw [fw_up_n hba] at hb
      obtain ⟨j, hj⟩ := h.ix hb
      refine h1 j (b, e2) ?_
      rw [List.getElem?_set_ne]
      · exact hj
      · intro z
        subst z
        rw [hk] at hj
        cases hj
        exact hba rfl
  · by_cases hba : b = a
    · subst hba
      exact h.2 b e0 hf0
    · rw [fw_up_n hba] at hb
      exact h.2 b e2 hb
theorem fw_P.ps {D : va_G} {A : Nat → Prop} {f : fw_F} {H H1 : Heap} (h : fw_P D A f H) {a : Nat} {e : va_E} (h1 : va_P D vwCl (fw_L f H.size ++ [(a, e)]) H1) (hD : va_D A (fw_L f H.size ++ [(a, e)])) : fw_P D A (fw_up f a e) H1 ∧ f a = none := by
  have hlast : (fw_L f H.size ++ [(a, e)])[(fw_L f H.size).length]? = some (a, e) := by
    rw [List.getElem?_append_right (Nat.le_refl _), Nat.sub_self]
    rfl
  have hn : f a = none := by
    cases hfa : f a with
    | none => rfl
    | some e2 =>
      obtain ⟨j, hj⟩ := h.ix hfa
      have hjl := (List.getElem?_eq_some_iff.mp hj).1
      have hj2 : (fw_L f H.size ++ [(a, e)])[j]? = some (a, e2) := by rw [List.getElem?_append_left hjl]; exact hj
      have := hD.1 _ _ _ _ hj2 hlast rfl
      omega
  refine ⟨⟨fun b e2 hb => ?_, fun b e2 hb => ?_⟩, hn⟩
  · by_cases hba : b = a
    · subst hba
      rw [fw_up_s] at hb
      cases hb
      exact h1 _ _ hlast
    · rw [fw_up_n hba] at hb
      obtain ⟨j, hj⟩ := h.ix hb
      refine h1 j (b, e2) ?_
      rw [List.getElem?_append_left (List.getElem?_eq_some_iff.mp hj).1]
      exact hj
  · by_cases hba : b = a
    · subst hba
      exact hD.2 _ _ hlast
    · rw [fw_up_n hba] at hb
      exact h.2 b e2 hb
theorem fw_P.kept {D : va_G} {A : Nat → Prop} {f : fw_F} {H H1 : Heap} (h : fw_P D A f H) (hq : ∀ a e, f a = some e → H1[a]? = H[a]?) : fw_P D A f H1 := ⟨fun a e hf => (h.1 a e hf).kept (hq a e hf), h.2⟩
/-- the same contents, said otherwise -/
theorem fw_P.cg {D : va_G} {A : Nat → Prop} {f g : fw_F} {H : Heap} (h : fw_P D A f H) (hg : ∀ a, g a = f a) : fw_P D A g H := ⟨fun a e ha => h.1 a e (by rw [← hg]; exact ha), fun a e ha => h.2 a e (by rw [← hg]; exact ha)⟩
def fw_S (D : va_G) (A : Nat → Prop) (H0 : Heap) (f : fw_F) (H : Heap) (locs : List Loc) : Prop := fw_P D A f H ∧ va_S A H0 H locs
/-! what every contract takes of the machine's tables; y: the array classes, in this order -/
abbrev tysC (y : Nat → ClassId) : List (ClassId × FieldType) := [(y 0, .int), (y 1, .boolean), (y 2, .object RX0), (y 3, .object RX1), (y 4, .object RX2), (y 5, .object RX4), (y 6, .object RX5), (y 7, .object RX6), (y 8, .object RX7), (y 9, .long)]
abbrev nIOB : String := "java/lang/IndexOutOfBoundsException"
abbrev nIAE : String := "java/lang/IllegalArgumentException"
abbrev nISE : String := "java/lang/IllegalStateException"
abbrev nRTE : String := "java/lang/RuntimeException"
abbrev nEXC : String := "java/lang/Exception"
abbrev dNW : List Cond := [.declares (Bundle.initS nRTE), .declares (Bundle.initS nEXC), .declares (Bundle.initS Bundle.tN), .castable nIOB nIOB, .castable nIAE nIAE, .castable nISE nISE]
abbrev nestW : List (Nat × MethodName) := [(55, yX1_init), (56, yX2_init)]
abbrev strW : List (Nat × String) := [(127, "no such sheet has come"), (140, "no more orders"), (145, "no such order"), (150, "no more transfers"), (158, "no such transfer"), (164, "the transfer has bounced"), (182, "all weeks are closed"), (202, "no such worker"), (204, "no such employer"), (209, "no such rank"), (213, "an argument is out of range"), (63, "no more workers")]
abbrev aoW : List String := [RX0, RX1, RX2, RX4, RX5, RX6, RX7]
def fw_T (D : va_G) (y : Nat → ClassId) (sa : Nat → Nat) (U : State) : Prop :=
  va_K D vwCl (tysC y) U ∧ (∀ c ∈ aoW, va_AO c U) ∧ (∀ w ∈ dNW, va_Nw w U) ∧ (∀ q ∈ nestW, va_Nw (.methodLinkNest RX8 q.1 q.2 RX8) U) ∧
  (∀ q ∈ strW, vk_R RX8 q.1 q.2 (sa q.1) U) ∧ va_Nc nIAE nIOB U ∧ va_Nc nISE nIOB U ∧ va_Nc nISE nIAE U
theorem fw_T.warm {D : va_G} {y : Nat → ClassId} {sa : Nat → Nat} {s U : State} (hW : s.WarmedH U.vm) (h : fw_T D y sa s) : fw_T D y sa U := by
  obtain ⟨h1, h2, h3, h4, h5, h6, h7, h8⟩ := h
  refine ⟨h1.moved hW.alike, fun c hc => (h2 c hc).moved hW.alike, fun w hw => ?_, fun q hq => (h4 q hq).warmM hW, fun q hq => (h5 q hq).warm hW, h6.moved hW.alike, h7.moved hW.alike, h8.moved hW.alike⟩
  have h := h3 w hw
  simp only [dNW, List.mem_cons, List.not_mem_nil, or_false] at hw
  rcases hw with rfl | rfl | rfl | rfl | rfl | rfl
  · exact h.warmD hW
  · exact h.warmD hW
  · exact h.warmD hW
  · exact h.warmC hW
  · exact h.warmC hW
  · exact h.warmC hW
def fw_E (D : va_G) (A : Nat → Prop) (y : Nat → ClassId) (sa : Nat → Nat) (U : State) : Prop :=
  fw_T D y sa U ∧ (∀ q, U.heap.size ≤ q → A q) ∧ vx_Zq Bundle.tN "UNASSIGNED_STACK" Bundle.steD A U U.heap ∧ vx_Zq Bundle.tN "SUPPRESSED_SENTINEL" Bundle.listD A U U.heap
theorem fw_E.moved {D : va_G} {A : Nat → Prop} {y : Nat → ClassId} {sa : Nat → Nat} {s U : State} {H : Heap} {locs : List Loc} (h : fw_E D A y sa s) (hS : va_S A s.heap H locs) (hU : U.heap = H) (hW : s.WarmedH U.vm) : fw_E D A y sa U := by
  obtain ⟨h1, h2, h3, h4⟩ := h
  refine ⟨h1.warm hW, fun q hq => h2 q ?_, ?_, ?_⟩
  · rw [hU] at hq
    exact Nat.le_trans hS.1 hq
  · rw [hU]
    exact (h3.kept hS.2.1).moved hW.alike
  · rw [hU]
    exact (h4.kept hS.2.1).moved hW.alike
/-- a smaller part of the heap that may change -/
theorem fw_E.narrow {D : va_G} {A B : Nat → Prop} {y : Nat → ClassId} {sa : Nat → Nat} {U : State} (h : fw_E D A y sa U) (hBA : ∀ q, B q → A q) (hB : ∀ q, U.heap.size ≤ q → B q) : fw_E D B y sa U := ⟨h.1, hB, h.2.2.1.narrow hBA, h.2.2.2.narrow hBA⟩
abbrev cPc (D : va_G) (A : Nat → Prop) (y : Nat → ClassId) (sa : Nat → Nat) (f : fw_F) (av : List Value) : Array Value → State → Prop := va_Pc av (fun U => fw_P D A f U.heap ∧ fw_E D A y sa U)
abbrev cQi (D : va_G) (A : Nat → Prop) (post : Int32 → fw_F → Prop) : Array Value → State → Outcome → State → Prop := va_Qi post (fun (f : fw_F) t => fw_P D A f t.heap) A
abbrev cQv (D : va_G) (A : Nat → Prop) (post : fw_F → Prop) : Array Value → State → Outcome → State → Prop := va_Qv post (fun (f : fw_F) t => fw_P D A f t.heap) A
abbrev cQq (D : va_G) (A : Nat → Prop) (post : Option Nat → fw_F → Prop) : Array Value → State → Outcome → State → Prop := va_Qq post (fun (f : fw_F) t => fw_P D A f t.heap) A
abbrev cX (D : va_G) (A : Nat → Prop) (f : fw_F) (thr : String → Prop) : String → State → State → Prop := vx_X (fun (_ : Unit) => True) (fun E (_ : Unit) t => thr E ∧ fw_P D A f t.heap) A
theorem cPc_blind {D : va_G} {A : Nat → Prop} {y : Nat → ClassId} {sa : Nat → Nat} {f : fw_F} {av : List Value} : FrameBlind (cPc D A y sa f av) := by
  intro a U g mk q
  obtain ⟨q0, q1, q2⟩ := q
  exact ⟨q0, q1, fw_E.moved (s := U) (U := U.calling g mk a) q2 (va_S.rf (A := A)) rfl (State.WarmedH.refl U)⟩
end
section
/-! THE ROWS over functional worlds -/
section FWR
variable {p : Program} {l : Launch} {e : Env} {R : Room} {s : State} {m : MethodId} {args : Array Value} {below : List Frame} {meth : Method} {c : Code} {H : Heap} {locs : List Loc} {cells slots : Nat} {Q : State → Prop}
variable {cc : ByteArray} {pc : Nat} {ls : Array Slot} {rest : List Value} {D : va_G} {A : Nat → Prop} {a : Nat} {H0 : Heap} {f : fw_F} {tys : List (ClassId × FieldType)} {own : String} {Ts : List Cond}
theorem fw_get (hx : p.tables.exec = Jvm.exec) (hb : c.code = cc) (hts : ∀ w ∈ Ts, w.before args s = true) (hown : s.vm.findClass own = some m.cls) (hK : va_K D vwCl tys s) (hw : fw_S D A H0 f H locs) {C : String} {T : u_T} {N ci index : Nat} {fs : List Value} (hf : f a = some (.inr (ci, fs))) (hin : ∀ w ∈ u_ws C T N, w ∈ Ts) (hc : vwCl[ci]? = some (C, T, N)) (k : Nat) (hk : k < N) {v : Value} (hv : fs[k]? = some v) (hl : Cond.fieldLink own index (T k).1 (T k).2.1 (T k).2.2.1 ∈ Ts) (hdg : decode cc pc = .ok (.getfield index, 3))
    (kk : W p l e R s m args below meth c H locs cells slots Q (F0 m (pc + 3) ls (v :: rest))) : W p l e R s m args below meth c H locs cells slots Q (F0 m pc ls (.ref a :: rest)) :=
  va_get (C := C) (T := T) (N := N) (ref := (T k).1) hx hb hts hin hown hK (hw.1.one hf) 0 rfl hc k hk (hts _ hl) (fun _ h => h) hv hdg kk
theorem fw_put (hx : p.tables.exec = Jvm.exec) (hb : c.code = cc) (hts : ∀ w ∈ Ts, w.before args s = true) (hown : s.vm.findClass own = some m.cls) (hK : va_K D vwCl tys s) (hw : fw_S D A H0 f H locs) {C : String} {T : u_T} {N ci index : Nat} {fs : List Value} (hf : f a = some (.inr (ci, fs))) (hin : ∀ w ∈ u_ws C T N, w ∈ Ts) (ty0 : Nat → FieldType) (hty : ∀ k, k < N → parseFieldDescriptor (T k).2.2.1 = some (ty0 k)) (hnm : ∀ a, a < N → ∀ b, b < N → a ≠ b → (T a).2.1 ≠ (T b).2.1) (hc : vwCl[ci]? = some (C, T, N)) (k : Nat) (hk : k < N) (hfin : (T k).2.2.2 = false) {v : Value} (hn : narrow (ty0 k) v = v) (hfit : fits (ty0 k) v = true) (hkl : k < fs.length) (hl : Cond.fieldLink own index (T k).1 (T k).2.1 (T k).2.2.1 ∈ Ts) (hdg : decode cc pc = .ok (.putfield index, 3))
    (kk : ∀ (H1 : Heap) (locs1 : List Loc), fw_S D A H0 (fw_up f a (.inr (ci, fs.set k v))) H1 locs1 → W p l e R s m args below meth c H1 locs1 cells slots Q (F0 m (pc + 3) ls rest)) : W p l e R s m args below meth c H locs cells slots Q (F0 m pc ls (v :: .ref a :: rest)) := by
  obtain ⟨q, hq⟩ := hw.1.ix hf
  exact va_put (C := C) (T := T) (N := N) (ref := (T k).1) hx hb hts hin ty0 hty hnm hown hK hw.1.lP hw.1.lD hw.2 q hq hc k hk (hts _ hl) (fun _ h => h) hfin (hty k hk) hn hfit hkl hdg (fun H1 locs1 hP _ hS => kk H1 locs1 ⟨hw.1.st hq hP, hS⟩)
theorem fw_putF (hx : p.tables.exec = Jvm.exec) (hb : c.code = cc) (hts : ∀ w ∈ Ts, w.before args s = true) (hown : s.vm.findClass own = some m.cls) (hK : va_K D vwCl tys s) (hw : fw_S D A H0 f H locs) {C : String} {T : u_T} {N ci index : Nat} {fs : List Value} (hf : f a = some (.inr (ci, fs))) (hin : ∀ w ∈ u_ws C T N, w ∈ Ts) (ty0 : Nat → FieldType) (hty : ∀ k, k < N → parseFieldDescriptor (T k).2.2.1 = some (ty0 k)) (hnm : ∀ a, a < N → ∀ b, b < N → a ≠ b → (T a).2.1 ≠ (T b).2.1) (hc : vwCl[ci]? = some (C, T, N)) (k : Nat) (hk : k < N) (hfin : (T k).2.2.2 = true) (hin2 : meth.name = "<init>") (hdecl : (T k).1 = own) {v : Value} (hn : narrow (ty0 k) v = v) (hfit : fits (ty0 k) v = true) (hkl : k < fs.length) (hl : Cond.fieldLink own index (T k).1 (T k).2.1 (T k).2.2.1 ∈ Ts) (hdg : decode cc pc = .ok (.putfield index, 3))
    (kk : ∀ (H1 : Heap) (locs1 : List Loc), fw_S D A H0 (fw_up f a (.inr (ci, fs.set k v))) H1 locs1 → W p l e R s m args below meth c H1 locs1 cells slots Q (F0 m (pc + 3) ls rest)) : W p l e R s m args below meth c H locs cells slots Q (F0 m pc ls (v :: .ref a :: rest)) := by
  obtain ⟨q, hq⟩ := hw.1.ix hf
  exact va_putF (C := C) (T := T) (N := N) (ref := (T k).1) hx hb hts hin ty0 hty hnm hown hK hw.1.lP hw.1.lD hw.2 q hq hc k hk (hts _ hl) (fun _ h => h) hfin hin2 hdecl (hty k hk) hn hfit hkl hdg (fun H1 locs1 hP _ hS => kk H1 locs1 ⟨hw.1.st hq hP, hS⟩)
theorem fw_iald (hx : p.tables.exec = Jvm.exec) (hb : c.code = cc) (hK : va_K D vwCl tys s) (hw : fw_S D A H0 f H locs) {cA : ClassId} {n : Nat} {g : Nat → Int32} (hf : f a = some (.inl (cA, n, .inl g))) (t0 : Nat) (ht : tys[t0]? = some (cA, .int)) {i : Int32} (hin : vp_in i n) (hdg : decode cc pc = .ok (.iaload, 1))
    (kk : W p l e R s m args below meth c H locs cells slots Q (F0 m (pc + 1) ls (.int (g i.toNatClampNeg) :: rest))) : W p l e R s m args below meth c H locs cells slots Q (F0 m pc ls (.int i :: .ref a :: rest)) :=
  va_iald hx hb hK (hw.1.one hf) 0 t0 rfl ht hin hdg kk
theorem fw_zald (hx : p.tables.exec = Jvm.exec) (hb : c.code = cc) (hK : va_K D vwCl tys s) (hw : fw_S D A H0 f H locs) {cA : ClassId} {n : Nat} {g : Nat → Int32} (hf : f a = some (.inl (cA, n, .inl g))) (t0 : Nat) (ht : tys[t0]? = some (cA, .boolean)) {i : Int32} (hin : vp_in i n) (hdg : decode cc pc = .ok (.baload, 1))
    (kk : W p l e R s m args below meth c H locs cells slots Q (F0 m (pc + 1) ls (.int (g i.toNatClampNeg) :: rest))) : W p l e R s m args below meth c H locs cells slots Q (F0 m pc ls (.int i :: .ref a :: rest)) :=
  va_zald hx hb hK (hw.1.one hf) 0 t0 rfl ht hin hdg kk
theorem fw_aald (hx : p.tables.exec = Jvm.exec) (hb : c.code = cc) (hK : va_K D vwCl tys s) (hw : fw_S D A H0 f H locs) {cA : ClassId} {n : Nat} {C : String} {g : Nat → Option Nat} (hf : f a = some (.inl (cA, n, .inr (.inr (.inr (.inr g)))))) (t0 : Nat) (ht : tys[t0]? = some (cA, .object C)) {i : Int32} (hin : vp_in i n) (hdg : decode cc pc = .ok (.aaload, 1))
    (kk : W p l e R s m args below meth c H locs cells slots Q (F0 m (pc + 1) ls (va_rf (g i.toNatClampNeg) :: rest))) : W p l e R s m args below meth c H locs cells slots Q (F0 m pc ls (.int i :: .ref a :: rest)) :=
  va_aldq hx hb hK (hw.1.one hf) 0 t0 rfl ht hin hdg kk
theorem fw_alen (hx : p.tables.exec = Jvm.exec) (hb : c.code = cc) (hK : va_K D vwCl tys s) (hw : fw_S D A H0 f H locs) {cA : ClassId} {z : vp_A} (hf : f a = some (.inl (cA, z))) (t0 : Nat) {ty : FieldType} (ht : tys[t0]? = some (cA, ty)) {v : Int32} (hv : Int32.ofNat z.1 = v) (hdg : decode cc pc = .ok (.arraylength, 1))
    (kk : W p l e R s m args below meth c H locs cells slots Q (F0 m (pc + 1) ls (.int v :: rest))) : W p l e R s m args below meth c H locs cells slots Q (F0 m pc ls (.ref a :: rest)) :=
  va_alen hx hb hK (hw.1.one hf) 0 t0 rfl ht hv hdg kk
theorem fw_iast (hx : p.tables.exec = Jvm.exec) (hb : c.code = cc) (hK : va_K D vwCl tys s) (hw : fw_S D A H0 f H locs) {cA : ClassId} {n : Nat} {g : Nat → Int32} (hf : f a = some (.inl (cA, n, .inl g))) (t0 : Nat) (ht : tys[t0]? = some (cA, .int)) {i x : Int32} (hin : vp_in i n) (hdg : decode cc pc = .ok (.iastore, 1))
    (kk : ∀ (H1 : Heap) (locs1 : List Loc), fw_S D A H0 (fw_up f a (.inl (cA, n, .inl (va_up g i.toNatClampNeg x)))) H1 locs1 → W p l e R s m args below meth c H1 locs1 cells slots Q (F0 m (pc + 1) ls rest)) : W p l e R s m args below meth c H locs cells slots Q (F0 m pc ls (.int x :: .int i :: .ref a :: rest)) := by
  obtain ⟨q, hq⟩ := hw.1.ix hf
  exact va_iast hx hb hK hw.1.lP hw.1.lD hw.2 q t0 hq ht hin hdg (fun H1 locs1 hP _ hS => kk H1 locs1 ⟨hw.1.st hq hP, hS⟩)
theorem fw_zast (hx : p.tables.exec = Jvm.exec) (hb : c.code = cc) (hK : va_K D vwCl tys s) (hw : fw_S D A H0 f H locs) {cA : ClassId} {n : Nat} {g : Nat → Int32} (hf : f a = some (.inl (cA, n, .inl g))) (t0 : Nat) (ht : tys[t0]? = some (cA, .boolean)) {i x : Int32} (hin : vp_in i n) (hxx : vp_nar .boolean x = x) (hdg : decode cc pc = .ok (.bastore, 1))
    (kk : ∀ (H1 : Heap) (locs1 : List Loc), fw_S D A H0 (fw_up f a (.inl (cA, n, .inl (va_up g i.toNatClampNeg x)))) H1 locs1 → W p l e R s m args below meth c H1 locs1 cells slots Q (F0 m (pc + 1) ls rest)) : W p l e R s m args below meth c H locs cells slots Q (F0 m pc ls (.int x :: .int i :: .ref a :: rest)) := by
  obtain ⟨q, hq⟩ := hw.1.ix hf
  exact va_zast hx hb hK hw.1.lP hw.1.lD hw.2 q t0 hq ht hin hdg (fun H1 locs1 hP _ hS => kk H1 locs1 ⟨hw.1.st hq (by rw [hxx] at hP; exact hP), hS⟩)
theorem fw_aast (hx : p.tables.exec = Jvm.exec) (hb : c.code = cc) (hK : va_K D vwCl tys s) (hw : fw_S D A H0 f H locs) {cA : ClassId} {n : Nat} {g : Nat → Option Nat} (hf : f a = some (.inl (cA, n, .inr (.inr (.inr (.inr g)))))) {r : vw_C} (t0 : Nat) (ht : tys[t0]? = some (cA, .object r.1)) {v ci : Nat} {vs : List Value} (hv : f v = some (.inr (ci, vs))) (hc : vwCl[ci]? = some r) {i : Int32} (hin : vp_in i n) (hdg : decode cc pc = .ok (.aastore, 1))
    (kk : ∀ (H1 : Heap) (locs1 : List Loc), fw_S D A H0 (fw_up f a (.inl (cA, n, .inr (.inr (.inr (.inr (va_up g i.toNatClampNeg (some v)))))))) H1 locs1 → W p l e R s m args below meth c H1 locs1 cells slots Q (F0 m (pc + 1) ls rest)) : W p l e R s m args below meth c H locs cells slots Q (F0 m pc ls (.ref v :: .int i :: .ref a :: rest)) := by
  obtain ⟨q, hq⟩ := hw.1.ix hf
  obtain ⟨q2, hq2⟩ := hw.1.ix hv
  exact va_astq (r := r) hx hb hK hw.1.lP hw.1.lD hw.2 q t0 q2 ci hq ht hq2 hc hin hdg (fun H1 locs1 hP _ hS => kk H1 locs1 ⟨hw.1.st hq hP, hS⟩)
theorem fw_new (hx : p.tables.exec = Jvm.exec) (hb : c.code = cc) (hts : ∀ w ∈ Ts, w.before args s = true) (hown : s.vm.findClass own = some m.cls) (hK : va_K D vwCl tys s) (hw : fw_S D A H0 f H locs) (hA : ∀ q, H0.size ≤ q → A q) {C : String} {T : u_T} {N ci index : Nat} (hin : ∀ w ∈ u_ws C T N, w ∈ Ts) (ty0 : Nat → FieldType) (hty : ∀ k, k < N → parseFieldDescriptor (T k).2.2.1 = some (ty0 k)) (hcl : Cond.classLink own index C ∈ Ts) (hins : Cond.instantiable C N ∈ Ts) (hini : Cond.initialized C ∈ Ts) (hc : vwCl[ci]? = some (C, T, N)) {fs : List Value} (hfs : ∀ j, j < N → defaultValue (ty0 j) = vp_V fs j) (hcells : cells + 1 ≤ R.cells) (hslots : slots + N ≤ R.slots) (hdg : decode cc pc = .ok (.new index, 3))
    (kk : ∀ (q : Nat) (H1 : Heap), f q = none → fw_S D A H0 (fw_up f q (.inr (ci, fs))) H1 locs → W p l e R s m args below meth c H1 locs (cells + 1) (slots + N) Q (F0 m (pc + 3) ls (.ref q :: rest))) : W p l e R s m args below meth c H locs cells slots Q (F0 m pc ls rest) :=
  va_new (C := C) (T := T) (N := N) hx hb hts hin ty0 hty hown (hts _ hcl) (hts _ hins) (hts _ hini) hK hw.1.lP hw.1.lD hw.2 hA hc hfs hcells hslots hdg (fun q H1 hP hD hS => kk q H1 (hw.1.ps hP hD).2 ⟨(hw.1.ps hP hD).1, hS⟩)
theorem fw_newI (hx : p.tables.exec = Jvm.exec) (hb : c.code = cc) (hts : ∀ w ∈ Ts, w.before args s = true) (hK : va_K D vwCl tys s) (hw : fw_S D A H0 f H locs) (hA : ∀ q, H0.size ≤ q → A q) (harr : Cond.arrayClass (newarray.typeOf .int) ∈ Ts) {cA : ClassId} (t0 : Nat) (ht : tys[t0]? = some (cA, .int)) {n : Int32} {N : Nat} (hn : ¬ n < 0) (hN : n.toNatClampNeg = N) (hbytes : N * componentBytes .int ≤ 536870912) (hcells : cells + 1 ≤ R.cells) (hslots : slots + N ≤ R.slots) (hdg : decode cc pc = .ok (.newarray .int, 2))
    (kk : ∀ (q : Nat) (H1 : Heap), f q = none → fw_S D A H0 (fw_up f q (.inl (cA, N, .inl (fun _ => 0)))) H1 locs → W p l e R s m args below meth c H1 locs (cells + 1) (slots + N) Q (F0 m (pc + 2) ls (.ref q :: rest))) : W p l e R s m args below meth c H locs cells slots Q (F0 m pc ls (.int n :: rest)) := by
  refine va_newa (atype := .int) (ty := .int) (a0 := (N, .inl (fun _ => 0))) hx hb (hts _ harr) rfl hK hw.1.lP hw.1.lD hw.2 hA (fun _ => rfl) hn hN hbytes hcells hslots hdg (fun q cB H1 hK2 hP hD hS => ?_)
  have e1 : s.vm.findClass ("[" ++ FieldType.int.toString) = some cA := (hK.2 t0 _ ht).2
  have e2 : s.vm.findClass ("[" ++ FieldType.int.toString) = some cB := (hK2.2 tys.length (cB, .int) (by rw [List.getElem?_append_right (Nat.le_refl _), Nat.sub_self]; rfl)).2
  obtain rfl := Option.some.inj (e1.symm.trans e2)
  exact kk q H1 (hw.1.ps hP hD).2 ⟨(hw.1.ps hP hD).1, hS⟩
theorem fw_newZ (hx : p.tables.exec = Jvm.exec) (hb : c.code = cc) (hts : ∀ w ∈ Ts, w.before args s = true) (hK : va_K D vwCl tys s) (hw : fw_S D A H0 f H locs) (hA : ∀ q, H0.size ≤ q → A q) (harr : Cond.arrayClass (newarray.typeOf .boolean) ∈ Ts) {cA : ClassId} (t0 : Nat) (ht : tys[t0]? = some (cA, .boolean)) {n : Int32} {N : Nat} (hn : ¬ n < 0) (hN : n.toNatClampNeg = N) (hbytes : N * componentBytes .boolean ≤ 536870912) (hcells : cells + 1 ≤ R.cells) (hslots : slots + N ≤ R.slots) (hdg : decode cc pc = .ok (.newarray .boolean, 2))
    (kk : ∀ (q : Nat) (H1 : Heap), f q = none → fw_S D A H0 (fw_up f q (.inl (cA, N, .inl (fun _ => 0)))) H1 locs → W p l e R s m args below meth c H1 locs (cells + 1) (slots + N) Q (F0 m (pc + 2) ls (.ref q :: rest))) : W p l e R s m args below meth c H locs cells slots Q (F0 m pc ls (.int n :: rest)) := by
  refine va_newa (atype := .boolean) (ty := .boolean) (a0 := (N, .inl (fun _ => 0))) hx hb (hts _ harr) rfl hK hw.1.lP hw.1.lD hw.2 hA (fun _ => rfl) hn hN hbytes hcells hslots hdg (fun q cB H1 hK2 hP hD hS => ?_)
  have e1 : s.vm.findClass ("[" ++ FieldType.boolean.toString) = some cA := (hK.2 t0 _ ht).2
  have e2 : s.vm.findClass ("[" ++ FieldType.boolean.toString) = some cB := (hK2.2 tys.length (cB, .boolean) (by rw [List.getElem?_append_right (Nat.le_refl _), Nat.sub_self]; rfl)).2
  obtain rfl := Option.some.inj (e1.symm.trans e2)
  exact kk q H1 (hw.1.ps hP hD).2 ⟨(hw.1.ps hP hD).1, hS⟩
theorem fw_newQ (hx : p.tables.exec = Jvm.exec) (hb : c.code = cc) (hts : ∀ w ∈ Ts, w.before args s = true) (hown : s.vm.findClass own = some m.cls) (hK : va_K D vwCl tys s) (hw : fw_S D A H0 f H locs) (hA : ∀ q, H0.size ≤ q → A q) {C : String} {index : Nat} (hcl : Cond.classLink own index C ∈ Ts) (hao : va_AO C s) {cA : ClassId} (t0 : Nat) (ht : tys[t0]? = some (cA, .object C)) {n : Int32} {N : Nat} (hn : ¬ n < 0) (hN : n.toNatClampNeg = N) (hbytes : N * 4 ≤ 536870912) (hcells : cells + 1 ≤ R.cells) (hslots : slots + N ≤ R.slots) (hdg : decode cc pc = .ok (.anewarray index, 3))
    (kk : ∀ (q : Nat) (H1 : Heap), f q = none → fw_S D A H0 (fw_up f q (.inl (cA, N, .inr (.inr (.inr (.inr (fun _ => none))))))) H1 locs → W p l e R s m args below meth c H1 locs (cells + 1) (slots + N) Q (F0 m (pc + 3) ls (.ref q :: rest))) : W p l e R s m args below meth c H locs cells slots Q (F0 m pc ls (.int n :: rest)) := by
  refine va_newq (C := C) hx hb hown (hts _ hcl) hao hK hw.1.lP hw.1.lD hw.2 hA hn hN hbytes hcells hslots hdg (fun q cB H1 hK2 hP hD hS => ?_)
  obtain ⟨_, _, _, _, _, e1⟩ := (hK.2 t0 _ ht).2
  obtain ⟨_, _, _, _, _, e2⟩ := (hK2.2 tys.length (cB, .object C) (by rw [List.getElem?_append_right (Nat.le_refl _), Nat.sub_self]; rfl)).2
  obtain rfl := Option.some.inj (e1.symm.trans e2)
  exact kk q H1 (hw.1.ps hP hD).2 ⟨(hw.1.ps hP hD).1, hS⟩
-- ends
theorem fw_hp {f : fw_F} {t : State} {H : Heap} {D : va_G} {A : Nat → Prop} (ht : t.heap = H) (h : fw_P D A f H) : fw_P D A f t.heap := by rw [ht]; exact h
theorem fw_iret {post : Int32 → fw_F → Prop} {mc ms : Nat} {v : Int32} (hx : p.tables.exec = Jvm.exec) (hb : c.code = cc) (hr : meth.sig.returnType = some .int) (hlocks : meth.locks = false) (hw : fw_S D A s.heap f H locs) (hc : cells ≤ mc) (hs : slots ≤ ms) (hdg : decode cc pc = .ok (.ireturn, 1)) (hp : post v f) : W p l e R s m args below meth c H locs cells slots (MQ below (cQi D A post) args s mc ms A) (F0 m pc ls [.int v]) :=
  W.widen hc hs (W.iret hx hb hr (fun t ht hW => ⟨⟨v, f, rfl, hp, fw_hp ht hw.1⟩, hw.2.F ht⟩) hw.2.2.2 hdg hlocks)
theorem fw_zret {post : Int32 → fw_F → Prop} {mc ms : Nat} {v : Int32} (hx : p.tables.exec = Jvm.exec) (hb : c.code = cc) (hr : meth.sig.returnType = some .boolean) (hlocks : meth.locks = false) (hw : fw_S D A s.heap f H locs) (hc : cells ≤ mc) (hs : slots ≤ ms) (hv : narrow .boolean (.int v) = .int v) (hdg : decode cc pc = .ok (.ireturn, 1)) (hp : post v f) : W p l e R s m args below meth c H locs cells slots (MQ below (cQi D A post) args s mc ms A) (F0 m pc ls [.int v]) :=
  W.widen hc hs (W.zret hx hb hr hv (fun t ht hW => ⟨⟨v, f, rfl, hp, fw_hp ht hw.1⟩, hw.2.F ht⟩) hw.2.2.2 hdg hlocks)
theorem fw_vret {post : fw_F → Prop} {mc ms : Nat} (hx : p.tables.exec = Jvm.exec) (hb : c.code = cc) (hr : meth.sig.returnType = none) (hlocks : meth.locks = false) (hw : fw_S D A s.heap f H locs) (hc : cells ≤ mc) (hs : slots ≤ ms) (hdg : decode cc pc = .ok (.return_, 1)) (hp : post f) : W p l e R s m args below meth c H locs cells slots (MQ below (cQv D A post) args s mc ms A) (F0 m pc ls []) :=
  W.widen hc hs (W.vret hx hb hr (fun t ht hW => ⟨⟨f, rfl, hp, fw_hp ht hw.1⟩, hw.2.F ht⟩) hw.2.2.2 hdg hlocks)
theorem fw_qret {post : Option Nat → fw_F → Prop} {mc ms : Nat} {r : Option Nat} {C : String} (hx : p.tables.exec = Jvm.exec) (hb : c.code = cc) (hr : meth.sig.returnType = some (.object C)) (hlocks : meth.locks = false) (hw : fw_S D A s.heap f H locs) (hc : cells ≤ mc) (hs : slots ≤ ms) (hdg : decode cc pc = .ok (.areturn, 1)) (hp : post r f) : W p l e R s m args below meth c H locs cells slots (MQ below (cQq D A post) args s mc ms A) (F0 m pc ls [va_rf r]) :=
  W.widen hc hs (W.aret hx hb hr (Or.inl ⟨C, rfl⟩) (va_rf_or r) (fun t ht hW => ⟨⟨r, f, rfl, hp, fw_hp ht hw.1⟩, hw.2.F ht⟩) hw.2.2.2 hdg hlocks)
-- calls
theorem fw_preV {y : Nat → ClassId} {sa : Nat → Nat} {C : String} {b : Nat} {As : List Value} {ci : Nat} {q : vw_C} {fs : List Value} (hE : fw_E D A y sa s) (hw : fw_S D A s.heap f H locs) (hc : vwCl[ci]? = some q) (hC : q.1 = C) (hfb : f b = some (.inr (ci, fs))) : PreV s H C b (cPc D A y sa f (.ref b :: As)) As :=
  ⟨cPc_blind, hC ▸ va_recv hE.1.1 (hw.1.one hfb) (q0 := 0) hc rfl, fun U hU hW => ⟨rfl, by rw [hU]; exact hw.1, hE.moved hw.2 hU hW⟩⟩
theorem fw_preS {y : Nat → ClassId} {sa : Nat → Nat} {As : List Value} (hE : fw_E D A y sa s) (hw : fw_S D A s.heap f H locs) : PreS s H (cPc D A y sa f As) As :=
  ⟨cPc_blind, fun U hU hW => ⟨rfl, by rw [hU]; exact hw.1, hE.moved hw.2 hU hW⟩⟩
end FWR
end
section
/-! ===== BEGIN .. of methods that hand back an object of the pool ===== -/
section
variable {p : Program} {l : Launch} {e : Env} {R : Room} {s : State} {m : MethodId} {args : Array Value} {below : List Frame} {meth : Method} {c : Code} {H : Heap} {locs : List Loc} {cells slots : Nat} {Q : State → Prop}
variable {mc ms : Nat} {free : Addr → Prop} {A0 A1 : Nat → Prop} {H0 : Heap} {a : Array Value} {pc : Nat} {ls : Array Slot} {st0 rest : List Value}
theorem vx_callq {S SX : Type} {post : Option Nat → S → Prop} {px : SX → Prop} {B : S → State → Prop} {BX : String → SX → State → Prop} {AX : Nat → Prop} (hr : vx_Run p l e R s m args below meth c H locs cells slots mc ms (F0 m pc ls st0) rest (va_Qq post B A1 a) (vx_X px BX AX) free) (hS : va_S A0 H0 H locs) (hA : ∀ q, q < H.size → A1 q → A0 q) (hf : ∀ q, free q → A0 q) (hAX : ∀ q, q < H.size → AX q → A0 q)
    (kx : ∀ (E : String) (ce : Cell) (q9 : Addr) (u : SX) (t : State) (H1 : Heap) (locs1 : List Loc), t.heap = H1 → s.vm.Alike t.vm → px u → BX E u t → H.size ≤ H1.size → (∀ q : Nat, q < H.size → ¬ AX q → H1[q]? = H[q]?) → va_S A0 H0 H1 locs1 → H1[q9]? = some ce → ce.vm = .none → s.vm.findClass E = some ce.cls → vx_W p l e R s m args below meth c H1 locs1 (cells + mc) (slots + ms) Q (F0 m pc ls rest) q9)
    (kk : ∀ (r : Option Nat) (u : S) (t : State) (H1 : Heap) (locs1 : List Loc), t.heap = H1 → s.vm.Alike t.vm → post r u → B u t → H.size ≤ H1.size → (∀ q : Nat, q < H.size → ¬ A1 q → H1[q]? = H[q]?) → va_S A0 H0 H1 locs1 → W p l e R s m args below meth c H1 locs1 (cells + mc) (slots + ms) Q (F0 m (pc + 3) ls (va_rf r :: rest))) : W p l e R s m args below meth c H locs cells slots Q (F0 m pc ls st0) := by
  intro T hT X
  rcases hr T hT X with ⟨v, st₀, t, T', L, h0, X', hL, e1, e2, ⟨⟨r, u, hv, hp, hb⟩, hF⟩, st⟩ | ⟨q, st₀, t, T', L, E, ce, h0, X', hL, e1, e2, ⟨u, hp, hb, hF⟩, hce, hcv, hcl, st⟩
  · cases hv
    obtain ⟨k1, k2, k3⟩ := vx_keep h0 e1 hS hA hf hL hF
    obtain ⟨t2, a1, b1⟩ := kk r u t T'.heap (locs ++ L) e1.symm (by rw [← e2]; exact X'.warmed.alike) hp hb k1 k2 k3 T' rfl X'
    exact ⟨t2, st t2 a1, b1⟩
  · obtain ⟨k1, k2, k3⟩ := vx_keep h0 e1 hS hAX hf hL hF
    obtain ⟨t2, a1, b1⟩ := kx E ce q u t T'.heap (locs ++ L) e1.symm (by rw [← e2]; exact X'.warmed.alike) hp hb k1 k2 k3 (by rw [e1]; exact hce) hcv hcl T' rfl X'
    exact ⟨t2, st.trans a1, b1⟩
end
/-! ===== END ===== -/
/-! CALLS, THROWS, STARTS over functional worlds -/
theorem fw_hq {f : fw_F} {t : State} {H : Heap} {D : va_G} {A : Nat → Prop} (ht : t.heap = H) (h : fw_P D A f t.heap) : fw_P D A f H := by rw [← ht]; exact h
section FWC
variable {p : Program} {l : Launch} {e : Env} {R : Room} {s : State} {m : MethodId} {args : Array Value} {below : List Frame} {meth : Method} {c : Code} {H : Heap} {locs : List Loc} {cells slots : Nat} {Q : State → Prop}
variable {cc : ByteArray} {pc : Nat} {ls : Array Slot} {rest st0 : List Value} {D : va_G} {A : Nat → Prop} {f : fw_F} {own : String} {Ts : List Cond}
variable {y : Nat → ClassId} {sa : Nat → Nat} {yy : MethodName} {bytes : ByteArray} {maxL nL mc ms n index : Nat} {ret : Option FieldType} {ws : List Cond} {rm : Room} {As : List Value} {b : Nat} {C : String} {ci : Nat} {fs : List Value} {q : vw_C}
theorem fw_callVi {post : Int32 → fw_F → Prop} (hx : p.tables.exec = Jvm.exec) (hb : c.code = cc) (hml : c.maxLocals = nL) (hown : s.vm.findClass own = some m.cls) (hts : ∀ w ∈ Ts, w.before args s = true) (hE : fw_E D A y sa s) (hw : fw_S D A s.heap f H locs)
    (As : List Value) (rest : List Value) (hM : Met l yy ws rm (cPc D A y sa f (.ref b :: As)) (cQi D A post) mc ms A) (cw : CallW R s args own C index yy bytes maxL ret ws rm mc ms n) (hc : vwCl[ci]? = some q) (hC : q.1 = C) (hfb : f b = some (.inr (ci, fs)))
    (hn : As.length = n) (hsize : ls.size = nL) (hst : st0 = As.reverse ++ .ref b :: rest) (hW : (rest.map fun v => v.category).sum ≤ 8) (hdg : decode cc pc = .ok (.invokevirtual index, 3)) (hcr : cells + mc ≤ R.cells ∧ slots + ms ≤ R.slots)
    (kk : ∀ (r : Int32) (f1 : fw_F) (H1 : Heap) (locs1 : List Loc), post r f1 → fw_S D A s.heap f1 H1 locs1 → W p l e R s m args below meth c H1 locs1 (cells + mc) (slots + ms) Q (F0 m (pc + 3) ls (.int r :: rest))) : W p l e R s m args below meth c H locs cells slots Q (F0 m pc ls st0) :=
  va_calli (va_runV (As := As) (rest := rest) ⟨hx, hb, hml, hown, hts⟩ hM cw (fw_preV hE hw hc hC hfb) rfl hn hsize hst (lv_room hW) hdg hcr) hw.2 (fun q _ h => h) (fun q h => h) (fun r u t H1 locs1 ht _ hp hB _ _ hS => kk r u H1 locs1 hp ⟨fw_hq ht hB, hS⟩)
theorem fw_callVv {post : fw_F → Prop} (hx : p.tables.exec = Jvm.exec) (hb : c.code = cc) (hml : c.maxLocals = nL) (hown : s.vm.findClass own = some m.cls) (hts : ∀ w ∈ Ts, w.before args s = true) (hE : fw_E D A y sa s) (hw : fw_S D A s.heap f H locs)
    (As : List Value) (rest : List Value) (hM : Met l yy ws rm (cPc D A y sa f (.ref b :: As)) (cQv D A post) mc ms A) (cw : CallW R s args own C index yy bytes maxL ret ws rm mc ms n) (hc : vwCl[ci]? = some q) (hC : q.1 = C) (hfb : f b = some (.inr (ci, fs)))
    (hn : As.length = n) (hsize : ls.size = nL) (hst : st0 = As.reverse ++ .ref b :: rest) (hW : (rest.map fun v => v.category).sum ≤ 8) (hdg : decode cc pc = .ok (.invokevirtual index, 3)) (hcr : cells + mc ≤ R.cells ∧ slots + ms ≤ R.slots)
    (kk : ∀ (f1 : fw_F) (H1 : Heap) (locs1 : List Loc), post f1 → fw_S D A s.heap f1 H1 locs1 → W p l e R s m args below meth c H1 locs1 (cells + mc) (slots + ms) Q (F0 m (pc + 3) ls rest)) : W p l e R s m args below meth c H locs cells slots Q (F0 m pc ls st0) :=
  va_callv (va_runV (As := As) (rest := rest) ⟨hx, hb, hml, hown, hts⟩ hM cw (fw_preV hE hw hc hC hfb) rfl hn hsize hst (lv_room hW) hdg hcr) hw.2 (fun q _ h => h) (fun q h => h) (fun u t H1 locs1 ht _ hp hB _ _ hS => kk u H1 locs1 hp ⟨fw_hq ht hB, hS⟩)
theorem fw_callVq {post : Option Nat → fw_F → Prop} (hx : p.tables.exec = Jvm.exec) (hb : c.code = cc) (hml : c.maxLocals = nL) (hown : s.vm.findClass own = some m.cls) (hts : ∀ w ∈ Ts, w.before args s = true) (hE : fw_E D A y sa s) (hw : fw_S D A s.heap f H locs)
    (As : List Value) (rest : List Value) (hM : Met l yy ws rm (cPc D A y sa f (.ref b :: As)) (cQq D A post) mc ms A) (cw : CallW R s args own C index yy bytes maxL ret ws rm mc ms n) (hc : vwCl[ci]? = some q) (hC : q.1 = C) (hfb : f b = some (.inr (ci, fs)))
    (hn : As.length = n) (hsize : ls.size = nL) (hst : st0 = As.reverse ++ .ref b :: rest) (hW : (rest.map fun v => v.category).sum ≤ 8) (hdg : decode cc pc = .ok (.invokevirtual index, 3)) (hcr : cells + mc ≤ R.cells ∧ slots + ms ≤ R.slots)
    (kk : ∀ (r : Option Nat) (f1 : fw_F) (H1 : Heap) (locs1 : List Loc), post r f1 → fw_S D A s.heap f1 H1 locs1 → W p l e R s m args below meth c H1 locs1 (cells + mc) (slots + ms) Q (F0 m (pc + 3) ls (va_rf r :: rest))) : W p l e R s m args below meth c H locs cells slots Q (F0 m pc ls st0) :=
  va_callq (va_runV (As := As) (rest := rest) ⟨hx, hb, hml, hown, hts⟩ hM cw (fw_preV hE hw hc hC hfb) rfl hn hsize hst (lv_room hW) hdg hcr) hw.2 (fun q _ h => h) (fun q h => h) (fun r u t H1 locs1 ht _ hp hB _ _ hS => kk r u H1 locs1 hp ⟨fw_hq ht hB, hS⟩)
theorem fw_callSi {post : Int32 → fw_F → Prop} (hx : p.tables.exec = Jvm.exec) (hb : c.code = cc) (hml : c.maxLocals = nL) (hown : s.vm.findClass own = some m.cls) (hts : ∀ w ∈ Ts, w.before args s = true) (hE : fw_E D A y sa s) (hw : fw_S D A s.heap f H locs)
    (As : List Value) (rest : List Value) (hM : Met l yy ws rm (cPc D A y sa f As) (cQi D A post) mc ms A) (cw : CallB R s args own index yy bytes maxL ret ws rm mc ms n ∧ (Cond.static yy).before args s = true)
    (hn : As.length = n) (hsize : ls.size = nL) (hst : st0 = As.reverse ++ rest) (hW : (rest.map fun v => v.category).sum ≤ 8) (hdg : decode cc pc = .ok (.invokestatic index, 3)) (hcr : cells + mc ≤ R.cells ∧ slots + ms ≤ R.slots)
    (kk : ∀ (r : Int32) (f1 : fw_F) (H1 : Heap) (locs1 : List Loc), post r f1 → fw_S D A s.heap f1 H1 locs1 → W p l e R s m args below meth c H1 locs1 (cells + mc) (slots + ms) Q (F0 m (pc + 3) ls (.int r :: rest))) : W p l e R s m args below meth c H locs cells slots Q (F0 m pc ls st0) :=
  va_calli (va_runS (As := As) (rest := rest) ⟨hx, hb, hml, hown, hts⟩ hM cw (fw_preS hE hw) rfl hn hsize hst (lv_room hW) hdg hcr) hw.2 (fun q _ h => h) (fun q h => h) (fun r u t H1 locs1 ht _ hp hB _ _ hS => kk r u H1 locs1 hp ⟨fw_hq ht hB, hS⟩)
theorem fw_callSWi {post : Int32 → fw_F → Prop} {hh : List (Nat × Nat × Nat × Nat)} (hx : p.tables.exec = Jvm.exec) (hb : c.code = cc) (hml : c.maxLocals = nL) (hown : s.vm.findClass own = some m.cls) (hts : ∀ w ∈ Ts, w.before args s = true) {A0 : Nat → Prop} {H0 : Heap} (hpre : PreS s H (cPc D A y sa f As) As) (hw : va_S A0 H0 H locs) (hAA : ∀ q, A q → A0 q)
    (rest : List Value) (hM : Met l yy ws rm (cPc D A y sa f As) (cQi D A post) mc ms A) (cw : vx_CSW R s args own index yy bytes maxL ret hh ws rm mc ms n)
    (hn : As.length = n) (hsize : ls.size = nL) (hst : st0 = As.reverse ++ rest) (hW : (rest.map fun v => v.category).sum ≤ 8) (hdg : decode cc pc = .ok (.invokestatic index, 3)) (hcr : cells + mc ≤ R.cells ∧ slots + ms ≤ R.slots)
    (kk : ∀ (r : Int32) (f1 : fw_F) (H1 : Heap) (locs1 : List Loc), post r f1 → fw_P D A f1 H1 → H.size ≤ H1.size → (∀ q : Nat, q < H.size → ¬ A q → H1[q]? = H[q]?) → va_S A0 H0 H1 locs1 → W p l e R s m args below meth c H1 locs1 (cells + mc) (slots + ms) Q (F0 m (pc + 3) ls (.int r :: rest))) : W p l e R s m args below meth c H locs cells slots Q (F0 m pc ls st0) :=
  va_calli (A0 := A0) (vx_runSW (As := As) (rest := rest) ⟨hx, hb, hml, hown, hts⟩ hM cw hpre rfl hn hsize hst (lv_room hW) hdg hcr) hw (fun q _ h => hAA q h) (fun q h => hAA q h) (fun r u t H1 locs1 ht _ hp hB hz hk hS => kk r u H1 locs1 hp (fw_hq ht hB) hz hk hS)
theorem fw_callIv {post : fw_F → Prop} (hx : p.tables.exec = Jvm.exec) (hb : c.code = cc) (hml : c.maxLocals = nL) (hown : s.vm.findClass own = some m.cls) (hts : ∀ w ∈ Ts, w.before args s = true) (hE : fw_E D A y sa s) (hw : fw_S D A s.heap f H locs)
    (As : List Value) (rest : List Value) (hM : Met l yy ws rm (cPc D A y sa f (.ref b :: As)) (cQv D A post) mc ms A) (cw : CallB R s args own index yy bytes maxL none ws rm mc ms n ∧ yy.name = "<init>" ∧ (Cond.instanceMethod yy).before args s = true)
    (hn : As.length = n) (hsize : ls.size = nL) (hst : st0 = As.reverse ++ .ref b :: rest) (hW : (rest.map fun v => v.category).sum ≤ 8) (hdg : decode cc pc = .ok (.invokespecial index, 3)) (hcr : cells + mc ≤ R.cells ∧ slots + ms ≤ R.slots)
    (kk : ∀ (f1 : fw_F) (H1 : Heap) (locs1 : List Loc), post f1 → fw_S D A s.heap f1 H1 locs1 → W p l e R s m args below meth c H1 locs1 (cells + mc) (slots + ms) Q (F0 m (pc + 3) ls rest)) : W p l e R s m args below meth c H locs cells slots Q (F0 m pc ls st0) :=
  va_callv (va_runI (As := As) (rest := rest) ⟨hx, hb, hml, hown, hts⟩ hM cw (fw_preS hE hw) rfl hn hsize hst (lv_room hW) hdg hcr) hw.2 (fun q _ h => h) (fun q h => h) (fun u t H1 locs1 ht _ hp hB _ _ hS => kk u H1 locs1 hp ⟨fw_hq ht hB, hS⟩)
theorem fw_callINv {post : fw_F → Prop} {host : String} (hx : p.tables.exec = Jvm.exec) (hb : c.code = cc) (hml : c.maxLocals = nL) (hown : s.vm.findClass own = some m.cls) (hts : ∀ w ∈ Ts, w.before args s = true) (hE : fw_E D A y sa s) (hw : fw_S D A s.heap f H locs)
    (As : List Value) (rest : List Value) (hM : Met l yy ws rm (cPc D A y sa f (.ref b :: As)) (cQv D A post) mc ms A) (cw : va_CN R s args own index yy host bytes maxL none ws rm mc ms n ∧ yy.name = "<init>" ∧ (Cond.instanceMethod yy).before args s = true)
    (hn : As.length = n) (hsize : ls.size = nL) (hst : st0 = As.reverse ++ .ref b :: rest) (hW : (rest.map fun v => v.category).sum ≤ 8) (hdg : decode cc pc = .ok (.invokespecial index, 3)) (hcr : cells + mc ≤ R.cells ∧ slots + ms ≤ R.slots)
    (kk : ∀ (f1 : fw_F) (H1 : Heap) (locs1 : List Loc), post f1 → fw_S D A s.heap f1 H1 locs1 → W p l e R s m args below meth c H1 locs1 (cells + mc) (slots + ms) Q (F0 m (pc + 3) ls rest)) : W p l e R s m args below meth c H locs cells slots Q (F0 m pc ls st0) :=
  va_callv (va_runIN (As := As) (rest := rest) ⟨hx, hb, hml, hown, hts⟩ hM cw (fw_preS hE hw) rfl hn hsize hst (lv_room hW) hdg hcr) hw.2 (fun q _ h => h) (fun q h => h) (fun u t H1 locs1 ht _ hp hB _ _ hS => kk u H1 locs1 hp ⟨fw_hq ht hB, hS⟩)
-- calls that may throw, in a method without handlers: what is thrown goes on
variable {thr thr' : String → Prop} {Qc : Array Value → State → Outcome → State → Prop} {mc' ms' : Nat}
theorem fw_thrown {E : String} {ce : Cell} {q9 : Nat} (htab : ∀ x ∈ c.exceptionTable.toList, False) (hlocks : meth.locks = false) (hth : thr' E) (hP : fw_P D A f H) (hS : va_S A s.heap H locs) (hce : H[q9]? = some ce) (hcv : ce.vm = .none) (hcl : s.vm.findClass E = some ce.cls) (hmc : cells ≤ mc') (hms : slots ≤ ms') :
    vx_W p l e R s m args below meth c H locs cells slots (vx_MQ below Qc (cX D A f thr') args s mc' ms' A) (F0 m pc ls rest) q9 :=
  vx_out (fun x hx => (htab x hx).elim) hlocks hce hcv hcl (fun t2 ht2 _ => ⟨(), trivial, ⟨hth, fw_hp ht2 hP⟩, hS.F ht2⟩) hS.2.2 hmc hms
theorem fw_tVq {post : Option Nat → fw_F → Prop} (hx : p.tables.exec = Jvm.exec) (hb : c.code = cc) (hml : c.maxLocals = nL) (hown : s.vm.findClass own = some m.cls) (hts : ∀ w ∈ Ts, w.before args s = true) (hE : fw_E D A y sa s) (hw : fw_S D A s.heap f H locs) (htab : ∀ x ∈ c.exceptionTable.toList, False) (hlocks : meth.locks = false)
    (As : List Value) (rest : List Value) (hM : vx_Met l yy ws rm (cPc D A y sa f (.ref b :: As)) (cQq D A post) (cX D A f thr) mc ms A) (cw : CallW R s args own C index yy bytes maxL ret ws rm mc ms n) (hc : vwCl[ci]? = some q) (hC : q.1 = C) (hfb : f b = some (.inr (ci, fs)))
    (hn : As.length = n) (hsize : ls.size = nL) (hst : st0 = As.reverse ++ .ref b :: rest) (hW : (rest.map fun v => v.category).sum ≤ 8) (hdg : decode cc pc = .ok (.invokevirtual index, 3)) (hcr : cells + mc ≤ R.cells ∧ slots + ms ≤ R.slots) (hth : ∀ E, thr E → thr' E) (hmc : cells + mc ≤ mc') (hms : slots + ms ≤ ms')
    (kk : ∀ (r : Option Nat) (f1 : fw_F) (H1 : Heap) (locs1 : List Loc), post r f1 → fw_S D A s.heap f1 H1 locs1 → W p l e R s m args below meth c H1 locs1 (cells + mc) (slots + ms) (vx_MQ below Qc (cX D A f thr') args s mc' ms' A) (F0 m (pc + 3) ls (va_rf r :: rest))) : W p l e R s m args below meth c H locs cells slots (vx_MQ below Qc (cX D A f thr') args s mc' ms' A) (F0 m pc ls st0) :=
  vx_callq (vx_runV (As := As) (rest := rest) ⟨hx, hb, hml, hown, hts⟩ hM cw (fw_preV hE hw hc hC hfb) rfl hn hsize hst (lv_room hW) hdg hcr) hw.2 (fun q _ h => h) (fun q h => h) (fun q _ h => h)
    (fun E ce q9 u t H1 locs1 ht _ _ hB _ _ hS hce hcv hcl => fw_thrown htab hlocks (hth E hB.1) (fw_hq ht hB.2) hS hce hcv hcl hmc hms)
    (fun r u t H1 locs1 ht _ hp hB _ _ hS => kk r u H1 locs1 hp ⟨fw_hq ht hB, hS⟩)
theorem fw_tSv {post : fw_F → Prop} (hx : p.tables.exec = Jvm.exec) (hb : c.code = cc) (hml : c.maxLocals = nL) (hown : s.vm.findClass own = some m.cls) (hts : ∀ w ∈ Ts, w.before args s = true) (hE : fw_E D A y sa s) (hw : fw_S D A s.heap f H locs) (htab : ∀ x ∈ c.exceptionTable.toList, False) (hlocks : meth.locks = false)
    (As : List Value) (rest : List Value) (hM : vx_Met l yy ws rm (cPc D A y sa f As) (cQv D A post) (cX D A f thr) mc ms A) (cw : CallB R s args own index yy bytes maxL ret ws rm mc ms n ∧ (Cond.static yy).before args s = true)
    (hn : As.length = n) (hsize : ls.size = nL) (hst : st0 = As.reverse ++ rest) (hW : (rest.map fun v => v.category).sum ≤ 8) (hdg : decode cc pc = .ok (.invokestatic index, 3)) (hcr : cells + mc ≤ R.cells ∧ slots + ms ≤ R.slots) (hth : ∀ E, thr E → thr' E) (hmc : cells + mc ≤ mc') (hms : slots + ms ≤ ms')
    (kk : ∀ (f1 : fw_F) (H1 : Heap) (locs1 : List Loc), post f1 → fw_S D A s.heap f1 H1 locs1 → W p l e R s m args below meth c H1 locs1 (cells + mc) (slots + ms) (vx_MQ below Qc (cX D A f thr') args s mc' ms' A) (F0 m (pc + 3) ls rest)) : W p l e R s m args below meth c H locs cells slots (vx_MQ below Qc (cX D A f thr') args s mc' ms' A) (F0 m pc ls st0) :=
  vx_callv (vx_runS (As := As) (rest := rest) ⟨hx, hb, hml, hown, hts⟩ hM cw (fw_preS hE hw) rfl hn hsize hst (lv_room hW) hdg hcr) hw.2 (fun q _ h => h) (fun q h => h) (fun q _ h => h)
    (fun E ce q9 u t H1 locs1 ht _ _ hB _ _ hS hce hcv hcl => fw_thrown htab hlocks (hth E hB.1) (fw_hq ht hB.2) hS hce hcv hcl hmc hms)
    (fun u t H1 locs1 ht _ hp hB _ _ hS => kk u H1 locs1 hp ⟨fw_hq ht hB, hS⟩)
/-- a call that may throw, where there are handlers -/
theorem fw_xVi {post : Int32 → fw_F → Prop} (hx : p.tables.exec = Jvm.exec) (hb : c.code = cc) (hml : c.maxLocals = nL) (hown : s.vm.findClass own = some m.cls) (hts : ∀ w ∈ Ts, w.before args s = true) (hE : fw_E D A y sa s) (hw : fw_S D A s.heap f H locs)
    (As : List Value) (rest : List Value) (hM : vx_Met l yy ws rm (cPc D A y sa f (.ref b :: As)) (cQi D A post) (cX D A f thr) mc ms A) (cw : CallW R s args own C index yy bytes maxL ret ws rm mc ms n) (hc : vwCl[ci]? = some q) (hC : q.1 = C) (hfb : f b = some (.inr (ci, fs)))
    (hn : As.length = n) (hsize : ls.size = nL) (hst : st0 = As.reverse ++ .ref b :: rest) (hW : (rest.map fun v => v.category).sum ≤ 8) (hdg : decode cc pc = .ok (.invokevirtual index, 3)) (hcr : cells + mc ≤ R.cells ∧ slots + ms ≤ R.slots)
    (kx : ∀ (E : String) (ce : Cell) (q9 : Nat) (H1 : Heap) (locs1 : List Loc), thr E → fw_S D A s.heap f H1 locs1 → H1[q9]? = some ce → ce.vm = .none → s.vm.findClass E = some ce.cls → vx_W p l e R s m args below meth c H1 locs1 (cells + mc) (slots + ms) Q (F0 m pc ls rest) q9)
    (kk : ∀ (r : Int32) (f1 : fw_F) (H1 : Heap) (locs1 : List Loc), post r f1 → fw_S D A s.heap f1 H1 locs1 → W p l e R s m args below meth c H1 locs1 (cells + mc) (slots + ms) Q (F0 m (pc + 3) ls (.int r :: rest))) : W p l e R s m args below meth c H locs cells slots Q (F0 m pc ls st0) :=
  vx_calli (vx_runV (As := As) (rest := rest) ⟨hx, hb, hml, hown, hts⟩ hM cw (fw_preV hE hw hc hC hfb) rfl hn hsize hst (lv_room hW) hdg hcr) hw.2 (fun q _ h => h) (fun q h => h) (fun q _ h => h)
    (fun E ce q9 u t H1 locs1 ht _ _ hB _ _ hS hce hcv hcl => kx E ce q9 H1 locs1 hB.1 ⟨fw_hq ht hB.2, hS⟩ hce hcv hcl)
    (fun r u t H1 locs1 ht _ hp hB _ _ hS => kk r u H1 locs1 hp ⟨fw_hq ht hB, hS⟩)
/-- throw new E("text") of class CrewPay -/
def thOK (ic : Nat) (cls : String) : Prop := Bundle.fit cls = true ∧ (∀ w ∈ (vx_atS RX8 ic cls [nRTE, nEXC]).filter (fun w => !goodWord w), w ∈ dNW) ∧ (∀ w ∈ vx_atS RX8 ic cls [nRTE, nEXC], vx_ot w = true)
theorem thIOB : thOK 129 nIOB := ⟨by decide +kernel, by decide +kernel, by decide +kernel⟩
theorem thIAE : thOK 215 nIAE := ⟨by decide +kernel, by decide +kernel, by decide +kernel⟩
theorem thISE : thOK 65 nISE := ⟨by decide +kernel, by decide +kernel, by decide +kernel⟩
theorem thNm : ∀ n ∈ [nRTE, nEXC], Bundle.fit n = true := by decide +kernel
theorem fw_throw {ic ik is : Nat} {cls text : String} (hx : p.tables.exec = Jvm.exec) (hb : c.code = cc) (hfl : l.stackTraces = false) (hts : ∀ w ∈ Ts, w.before args s = true) (hown : s.vm.findClass RX8 = some m.cls) (hE : fw_E D A y sa s) (hw : fw_S D A s.heap f H locs) (htab : ∀ x ∈ c.exceptionTable.toList, False) (hlocks : meth.locks = false)
    (hok : thOK ic cls) (hg : ∀ w ∈ (vx_atS RX8 ic cls [nRTE, nEXC]).filter goodWord, w ∈ Ts) (hk : Cond.classLink RX8 ik cls ∈ Ts) (hini : Cond.initialized cls ∈ Ts) (hstr : (is, text) ∈ strW) (hsize : ls.size = c.maxLocals)
    (d0 : decode cc pc = .ok (.new ik, 3)) (d3 : decode cc (pc + 3) = .ok (.dup, 1)) (d4 : decode cc (pc + 4) = .ok (.ldc is, 2)) (d6 : decode cc (pc + 6) = .ok (.invokespecial ic, 3)) (d9 : decode cc (pc + 9) = .ok (.athrow, 1))
    (hRf : 5 < R.frames) (hRl : (rest.map fun v => v.category).sum + 82 ≤ R.locals) (hRc : cells + 1 ≤ R.cells) (hRs : slots + 6 ≤ R.slots) (hth : thr' cls) (hmc : cells + 1 ≤ mc') (hms : slots + 6 ≤ ms') :
    W p l e R s m args below meth c H locs cells slots (vx_MQ below Qc (cX D A f thr') args s mc' ms' A) (F0 m pc ls rest) := by
  have hat : ∀ w ∈ vx_atS RX8 ic cls [nRTE, nEXC], w.before args s = true := vx_hat (B := dNW) (fun w h => hts w (hg w h)) hok.2.1 (fun w h => va_Nw.use (by simp only [dNW, List.mem_cons, List.not_mem_nil, or_false] at h; rcases h with rfl | rfl | rfl | rfl | rfl | rfl <;> rfl) (hE.1.2.2.1 w h))
  refine vx_throwS hx hb hfl hown hok.1 thNm (hts _ hk) (hts _ hini) (hE.1.2.2.2.2.1 (is, text) hstr) hat (fun w h => ?_) hE.2.2.1 hE.2.2.2 hw.2 hsize d0 d3 d4 d6 d9 (fun x hx => (htab x hx).elim) hRf hRl hRc hRs hlocks (fun t hal hz hk => ⟨(), trivial, ⟨hth, ?_⟩, Nat.le_trans hw.2.1 hz, fun q h1 h2 => (hk q (Nat.lt_of_lt_of_le h1 hw.2.1)).trans (hw.2.2.1 q h1 h2)⟩) hw.2.2.2 hmc hms
  · rcases List.mem_cons.mp h with rfl | h
    · rfl
    · rcases List.mem_cons.mp h with rfl | h
      · rfl
      · exact hok.2.2 w h
  · exact hw.1.kept (fun a e ha => hk a (hw.1.lt ha))
-- starts
abbrev fw_In (p : Program) (s : State) (m : MethodId) (args : Array Value) (meth : Method) (c : Code) (cc : ByteArray) (maxL : Nat) (ret : Option FieldType) (ws : List Cond) (cls : String) : Prop :=
  p.tables.exec = Jvm.exec ∧ c.code = cc ∧ meth.sig.returnType = ret ∧ (∀ w ∈ ws, w.before args s = true) ∧ s.vm.findClass cls = some m.cls ∧ meth.locks = false ∧ c.maxLocals = maxL
end FWC
section FWB
variable {l : Launch} {D : va_G} {A : Nat → Prop} {y : Nat → ClassId} {sa : Nat → Nat} {f : fw_F} {yy : MethodName} {cc : ByteArray} {maxL : Nat} {ret : Option FieldType} {ws ws' : List Cond} {rm : Room} {mc ms : Nat} {Qc : Array Value → State → Outcome → State → Prop} {thr : String → Prop}
theorem fw_met (hy : plainName yy.cls = true) (hw : ws = Cond.code yy cc maxL ret :: ws') (av : List Value) (hav : (lg_sl av).length ≤ maxL)
    (body : ∀ (p : Program) (e : Env) (s : State) (m : MethodId) (args : Array Value) (below : List Frame) (meth : Method) (c : Code) (ls : Array Slot), fw_In p s m args meth c cc maxL ret ws yy.cls → (yy.name = "<init>" → meth.name = "<init>") → fw_E D A y sa s → fw_S D A s.heap f s.heap [] → lv_has ls maxL (lv_args 0 av) →
      W p l e (headSpec ws rm).room s m args below meth c s.heap [] 0 0 (MQ below Qc args s mc ms A) (F0 m 0 ls [])) : Met l yy ws rm (cPc D A y sa f av) Qc mc ms A := by
  refine Met.ofW (cc := cc) (maxL := maxL) (ret := ret) hy hw ?_
  intro p e s m args below meth c s₁ B hml hv
  obtain ⟨rfl, hP, hE⟩ := hv
  rw [lg_entry_eq]
  exact body p e s m _ below meth c _ ⟨B.exec, B.bytes, B.returns, atoms_spec (ws := ws) B.pre, findClass_of_methodNamed B.named, B.notSynchronized, hml⟩ (fun h => (name_of_methodNamed B.named B.method).1.trans h) hE ⟨hP, va_S.rf⟩ (lv_entry av hav)
theorem fw_xmet (hy : plainName yy.cls = true) (hw : ws = Cond.code yy cc maxL ret :: ws') (av : List Value) (hav : (lg_sl av).length ≤ maxL)
    (body : ∀ (p : Program) (e : Env) (s : State) (m : MethodId) (args : Array Value) (below : List Frame) (meth : Method) (c : Code) (ls : Array Slot), fw_In p s m args meth c cc maxL ret ws yy.cls → (∀ x ∈ c.exceptionTable.toList, False) → fw_E D A y sa s → fw_S D A s.heap f s.heap [] → lv_has ls maxL (lv_args 0 av) →
      W p l e (headSpec ws rm).room s m args below meth c s.heap [] 0 0 (vx_MQ below Qc (cX D A f thr) args s mc ms A) (F0 m 0 ls [])) : vx_Met l yy ws rm (cPc D A y sa f av) Qc (cX D A f thr) mc ms A := by
  refine vx_ofW (cc := cc) (maxL := maxL) (ret := ret) hy hw ?_
  intro p e s m args below meth c s₁ B hml ht hv
  obtain ⟨rfl, hP, hE⟩ := hv
  rw [lg_entry_eq]
  exact body p e s m _ below meth c _ ⟨B.exec, B.bytes, B.returns, atoms_spec (ws := ws) B.pre, findClass_of_methodNamed B.named, B.notSynchronized, hml⟩ ht hE ⟨hP, va_S.rf⟩ (lv_entry av hav)
/-- a method with handlers that lets nothing out -/
theorem fw_hmet {hh : List (Nat × Nat × Nat × Nat)} (hy : plainName yy.cls = true) (hw : ws = Cond.codeWith yy cc maxL ret hh :: ws') (av : List Value) (hav : (lg_sl av).length ≤ maxL)
    (body : ∀ (p : Program) (e : Env) (s : State) (m : MethodId) (args : Array Value) (below : List Frame) (meth : Method) (c : Code) (ls : Array Slot), fw_In p s m args meth c cc maxL ret ws yy.cls → c.exceptionTable.toList = tableOf hh → fw_E D A y sa s → fw_S D A s.heap f s.heap [] → lv_has ls maxL (lv_args 0 av) →
      W p l e (headSpec ws rm).room s m args below meth c s.heap [] 0 0 (MQ below Qc args s mc ms A) (F0 m 0 ls [])) : Met l yy ws rm (cPc D A y sa f av) Qc mc ms A := by
  refine va_MetW (cc := cc) (maxL := maxL) (ret := ret) (hh := hh) hy hw ?_
  intro p e s m args below meth c s₁ B hml hv
  obtain ⟨rfl, hP, hE⟩ := hv
  have ht := vx_table (x := yy) B (atoms_spec (ws := ws) B.pre _ (by rw [hw]; exact List.mem_cons_self))
  rw [lg_entry_eq]
  exact body p e s m _ below meth c _ ⟨B.exec, B.bytes, B.returns, atoms_spec (ws := ws) B.pre, findClass_of_methodNamed B.named, B.notSynchronized, hml⟩ ht hE ⟨hP, va_S.rf⟩ (lv_entry av hav)
end FWB
end
section
/-! LOOPS AND JOINS over functional worlds -/
section FWL
variable {p : Program} {l : Launch} {e : Env} {R : Room} {s : State} {m : MethodId} {args : Array Value} {below : List Frame} {meth : Method} {c : Code} {Q : State → Prop} {D : va_G} {A : Nat → Prop} {H0 : Heap}
theorem fw_loop {α : Type} (pc2 nL : Nat) (μ : α → Nat) (P : α → Prop) (f2 : α → fw_F) (lv : α → List (Nat × Value)) (st : α → List Value) (cl sl : α → Nat)
    (step : ∀ (r : α) (H : Heap) (locs : List Loc) (ls : Array Slot), P r → fw_S D A H0 (f2 r) H locs → lv_has ls nL (lv r) →
      (∀ (r' : α) (H : Heap) (locs : List Loc) (ls : Array Slot), μ r' < μ r → P r' → fw_S D A H0 (f2 r') H locs → lv_has ls nL (lv r') → W p l e R s m args below meth c H locs (cl r') (sl r') Q (F0 m pc2 ls (st r'))) →
      W p l e R s m args below meth c H locs (cl r) (sl r) Q (F0 m pc2 ls (st r)))
    (r : α) (H : Heap) (locs : List Loc) (ls : Array Slot) (hP : P r) (hw : fw_S D A H0 (f2 r) H locs) (hl : lv_has ls nL (lv r)) : W p l e R s m args below meth c H locs (cl r) (sl r) Q (F0 m pc2 ls (st r)) := by
  have key : ∀ (n : Nat) (r : α) (H : Heap) (locs : List Loc) (ls : Array Slot), μ r < n → P r → fw_S D A H0 (f2 r) H locs → lv_has ls nL (lv r) → W p l e R s m args below meth c H locs (cl r) (sl r) Q (F0 m pc2 ls (st r)) := by
    intro n
    induction n with
    | zero => intro r H locs ls h; exact absurd h (Nat.not_lt_zero _)
    | succ n ih => exact fun r H locs ls h hP hw hl => step r H locs ls hP hw hl (fun r' H locs ls h' => ih r' H locs ls (by omega))
  exact key (μ r + 1) r H locs ls (Nat.lt_succ_self _) hP hw hl
/-- a place where roads meet -/
theorem fw_cut {α : Type} {H : Heap} {locs : List Loc} {cells slots : Nat} {g : JFrame} (pc2 nL : Nat) (P : α → Prop) (f2 : α → fw_F) (lv : α → List (Nat × Value)) (st : α → List Value) (cl sl : α → Nat)
    (k : ∀ (r : α) (H : Heap) (locs : List Loc) (ls : Array Slot), P r → fw_S D A H0 (f2 r) H locs → lv_has ls nL (lv r) → W p l e R s m args below meth c H locs (cl r) (sl r) Q (F0 m pc2 ls (st r)))
    (h : (∀ (r : α) (H : Heap) (locs : List Loc) (ls : Array Slot), P r → fw_S D A H0 (f2 r) H locs → lv_has ls nL (lv r) → W p l e R s m args below meth c H locs (cl r) (sl r) Q (F0 m pc2 ls (st r))) → W p l e R s m args below meth c H locs cells slots Q g) : W p l e R s m args below meth c H locs cells slots Q g := h k
end FWL
theorem lv_refl {ls : Array Slot} {nL : Nat} {l : List (Nat × Value)} (h : lv_has ls nL l) : lv_has ls nL l := h
/-- the first i of a row are v -/
def fillv (v : Int32) (i : Nat) : Nat → Int32 := fun k => if k < i then v else 0
theorem fillv_0 {v : Int32} : fillv v 0 = fun _ => 0 := by
  funext k
  simp [fillv]
theorem fillv_s {v : Int32} {i : Nat} : va_up (fillv v i) i v = fillv v (i + 1) := by
  funext k
  simp only [va_up, fillv]
  by_cases h : k = i
  · simp [h]
  · by_cases h2 : k < i
    · simp [h, h2, Nat.lt_succ_of_lt h2]
    · have : ¬ k < i + 1 := by omega
      simp [h, h2, this]
/-- from i on, as long as nothing was told, the value v -/
def tlV (told : Nat → Int32) (v : Int32) : Nat → Nat → (Nat → Int32) → (Nat → Int32)
  | 0, _, g => g
  | n + 1, i, g => if told i = 0 then tlV told v n (i + 1) (va_up g i v) else g
/-- how far a row of references goes without a gap -/
def cntU (S : Nat → Option Nat) : Nat → Nat → Nat
  | 0, k => k
  | n + 1, k => if (S k).isSome = true then cntU S n (k + 1) else k
theorem cntU_le {S : Nat → Option Nat} : ∀ (n k : Nat), cntU S n k ≤ k + n := by
  intro n
  induction n with
  | zero => intro k; exact Nat.le_refl _
  | succ n ih =>
    intro k
    unfold cntU
    split
    · have := ih (k + 1)
      omega
    · omega
theorem fw_up_c {f : fw_F} {a b : Nat} {e e2 : va_E} (h : a ≠ b) : fw_up (fw_up f a e) b e2 = fw_up (fw_up f b e2) a e := by
  funext j
  unfold fw_up
  by_cases h1 : j = a
  · by_cases h2 : j = b
    · exact absurd (h1.symm.trans h2) h
    · simp [h1, h]
  · by_cases h2 : j = b
    · have h3 : ¬ b = a := Ne.symm h
      simp [h2, h3]
    · simp [h1, h2]
theorem fw_up_up {f : fw_F} {a : Nat} {e e2 : va_E} : fw_up (fw_up f a e) a e2 = fw_up f a e2 := by
  funext j
  unfold fw_up
  by_cases h : j = a <;> simp [h]
/-- what Order.payOff answers -/
def payv (there left most : Int32) : Int32 := if (0 : Int32) < (if (if most < left then most else left) < there then (if most < left then most else left) else there) then (if (if most < left then most else left) < there then (if most < left then most else left) else there) else 0
theorem fw_ne {f : fw_F} {a b : Nat} {e : va_E} (h : f a = some e) (hn : f b = none) : a ≠ b := fun z => by rw [z, hn] at h; cases h
theorem nI_hi {i n : Nat} (h : ¬ nI n ≤ nI i) (hi : i < 2 ^ 31) : i < n := by
  rcases Nat.lt_or_ge i n with z | z
  · exact z
  · exact absurd (nI_le z hi) h
theorem nI_eqn {i n : Nat} (h : nI n ≤ nI i) (h2 : i ≤ n) (hn : n < 2 ^ 31) : i = n := by
  rcases Nat.lt_or_ge i n with z | z
  · exact absurd h (nI_ge z hn)
  · omega
theorem fw_up_o {f : fw_F} {a b : Nat} {e : va_E} (h : fw_up f a e b = none) : f b = none := by
  by_cases z : b = a
  · rw [z, fw_up_s] at h
    cases h
  · rw [fw_up_n z] at h
    exact h
theorem fw_inB {i N : Int32} {n : Nat} (hN : N.toInt = n) (h0 : ¬ i < 0) (h1 : ¬ N ≤ i) : vp_in i n := by
  rw [vp_in_iff]
  rw [Int32.lt_iff_toInt_lt] at h0
  rw [Int32.le_iff_toInt_le] at h1
  have hz : (0 : Int32).toInt = 0 := rfl
  omega
theorem fw_ne2 {f : fw_F} {a b : Nat} {e1 e2 : va_E} (h : f a = some e1) (h2 : f b = some e2) (hn : e1 ≠ e2) : a ≠ b := fun z => by
  rw [z, h2] at h
  exact hn (Option.some.inj h).symm
theorem fw_up_id {f : fw_F} {a : Nat} {e : va_E} (h : f a = some e) : fw_up f a e = f := by
  funext j
  unfold fw_up
  by_cases z : j = a
  · simp [z, h]
  · simp [z]
end
section
theorem iX1_init_1 : ∀ w ∈ wsX10, w ∈ wsX1_init := by decide +kernel
set_option maxHeartbeats 4000000 in
set_option maxRecDepth 100000 in
/-- Pot(): empty -/
theorem c_X1_init (l : Launch) (D : va_G) (A : Nat → Prop) (y : Nat → ClassId) (sa : Nat → Nat) (f : fw_F) (h0 : Nat) (cv sv : Int32) (hf : f h0 = some (.inr (1, [.int cv, .int sv]))) : Met l yX1_init wsX1_init ({ frames := 1, cells := 0, slots := 0, locals := 20 } : Room) (cPc D A y sa f [.ref h0]) (cQv D A (fun f1 => f1 = fw_up f h0 (.inr (1, [.int 0, .int 0])))) 0 0 A := by
  refine fw_met (by decide) rfl [.ref h0] (Nat.le_of_ble_eq_true rfl) ?_
  intro p e s m args below meth c ls I hin hE hw hl
  obtain ⟨hx, hb, hr, hts, hown, hlocks, hml⟩ := I
  have hown : s.vm.findClass RX1 = some m.cls := hown
  have hl : lv_has ls 1 [(0, .ref h0)] := hl
  refine lv_aload_n hx hb dX1_init_0 rfl (lv_at hl 0 rfl) ?_
  refine W.objInit hx hb hown (hts (.methodLink RX1 1 objectInit) (by decide +kernel)) (hts (.instanceMethod objectInit) (by decide +kernel)) (hts (.code objectInit ⟨#[0xb1]⟩ 1 none) (by decide +kernel)) rfl (by rw [hml]; exact hl.1) rfl dX1_init_1 (Nat.le_of_ble_eq_true rfl) (Nat.le_of_ble_eq_true rfl) ?_
  refine W.eq (g2 := F0 m 4 ls []) rfl ?_
  refine lv_aload_n hx hb dX1_init_4 rfl (lv_at hl 0 rfl) ?_
  refine lv_iconst (v := 0) hx hb dX1_init_5 (by decide) ?_
  refine fw_put hx hb hts hown hE.1.1 hw (ci := 1) (fs := [.int cv, .int sv]) (v := .int 0) hf iX1_init_1 tyX1 tyX1_ok nmX1 rfl 0 (by decide) rfl rfl rfl (Nat.le_of_ble_eq_true rfl) (by decide +kernel) dX1_init_6 (fun H locs hw => ?_)
  obtain ⟨f1, ef1⟩ : ∃ z, z = fw_up f h0 (.inr (1, [.int 0, .int sv])) := ⟨_, rfl⟩
  have hw : fw_S D A s.heap f1 H locs := by rw [ef1]; exact hw
  have h2 : f1 h0 = some (.inr (1, [.int 0, .int sv])) := by rw [ef1]; exact fw_up_s
  refine lv_aload_n hx hb dX1_init_9 rfl (lv_at hl 0 rfl) ?_
  refine lv_iconst (v := 0) hx hb dX1_init_10 (by decide) ?_
  refine fw_put hx hb hts hown hE.1.1 hw (ci := 1) (fs := [.int 0, .int sv]) (v := .int 0) h2 iX1_init_1 tyX1 tyX1_ok nmX1 rfl 1 (by decide) rfl rfl rfl (Nat.le_of_ble_eq_true rfl) (by decide +kernel) dX1_init_11 (fun H locs hw => ?_)
  obtain ⟨f3, ef3⟩ : ∃ z, z = fw_up f1 h0 (.inr (1, [.int 0, .int 0])) := ⟨_, rfl⟩
  have hw : fw_S D A s.heap f3 H locs := by rw [ef3]; exact hw
  have h4 : f3 h0 = some (.inr (1, [.int 0, .int 0])) := by rw [ef3]; exact fw_up_s
  exact fw_vret hx hb hr hlocks hw (Nat.le_of_ble_eq_true rfl) (Nat.le_of_ble_eq_true rfl) dX1_init_14 (by rw [ef3, ef1]; exact fw_up_up)

theorem iX1_receive_1 : ∀ w ∈ wsX10, w ∈ wsX1_receive := by decide +kernel
set_option maxHeartbeats 4000000 in
set_option maxRecDepth 100000 in
/-- Pot.receive -/
theorem c_X1_receive (l : Launch) (D : va_G) (A : Nat → Prop) (y : Nat → ClassId) (sa : Nat → Nat) (f : fw_F) (h0 : Nat) (cv sv p0 : Int32) (hf : f h0 = some (.inr (1, [.int cv, .int sv]))) : Met l yX1_receive wsX1_receive ({ frames := 1, cells := 0, slots := 0, locals := 24 } : Room) (cPc D A y sa f [.ref h0, .int p0]) (cQv D A (fun f1 => f1 = fw_up f h0 (.inr (1, [.int (cv + (p0 - (if p0 < sv then p0 else sv))), .int (sv - (if p0 < sv then p0 else sv))])))) 0 0 A := by
  refine fw_met (by decide) rfl [.ref h0, .int p0] (Nat.le_of_ble_eq_true rfl) ?_
  intro p e s m args below meth c ls I hin hE hw hl
  obtain ⟨hx, hb, hr, hts, hown, hlocks, hml⟩ := I
  have hown : s.vm.findClass RX1 = some m.cls := hown
  have hl : lv_has ls 3 [(0, .ref h0), (1, .int p0)] := hl
  refine lv_aload_n hx hb dX1_receive_0 rfl (lv_at hl 0 rfl) ?_
  refine fw_get hx hb hts hown hE.1.1 hw (ci := 1) (fs := [.int cv, .int sv]) (v := .int sv) hf iX1_receive_1 rfl 1 (by decide) rfl (by decide +kernel) dX1_receive_1 ?_
  refine lv_iload_n hx hb dX1_receive_4 rfl (lv_at hl 1 rfl) ?_
  refine va_mmin hx hb (hml.trans hl.1.symm) (own := RX1) hown (hts (.methodLink RX1 16 Lib.Math.min.name) (by decide +kernel)) (hts (.static Lib.Math.min.name) (by decide +kernel)) (hts (.initialized "java/lang/Math") (by decide +kernel)) (hts (.code Lib.Math.min.name Lib.Math.min.code 2 (some .int)) (by decide +kernel)) (Nat.le_of_ble_eq_true rfl) (Nat.le_of_ble_eq_true rfl) (Nat.le_of_ble_eq_true rfl) (Nat.le_of_ble_eq_true rfl) dX1_receive_5 ?_
  refine lv_istore_n (lv' := [(2, .int (if p0 < sv then p0 else sv)), (0, .ref h0), (1, .int p0)]) hx hb dX1_receive_8 rfl hl (by decide) rfl (fun ls hl => ?_)
  refine lv_aload_n hx hb dX1_receive_9 rfl (lv_at hl 1 rfl) ?_
  refine lv_dup hx hb dX1_receive_10 rfl ?_
  refine fw_get hx hb hts hown hE.1.1 hw (ci := 1) (fs := [.int cv, .int sv]) (v := .int sv) hf iX1_receive_1 rfl 1 (by decide) rfl (by decide +kernel) dX1_receive_11 ?_
  refine lv_iload_n hx hb dX1_receive_14 rfl (lv_at hl 0 rfl) ?_
  refine lv_isub hx hb dX1_receive_15 ?_
  refine fw_put hx hb hts hown hE.1.1 hw (ci := 1) (fs := [.int cv, .int sv]) (v := .int (sv - (if p0 < sv then p0 else sv))) hf iX1_receive_1 tyX1 tyX1_ok nmX1 rfl 1 (by decide) rfl rfl rfl (Nat.le_of_ble_eq_true rfl) (by decide +kernel) dX1_receive_16 (fun H locs hw => ?_)
  obtain ⟨f1, ef1⟩ : ∃ z, z = fw_up f h0 (.inr (1, [.int cv, .int (sv - (if p0 < sv then p0 else sv))])) := ⟨_, rfl⟩
  have hw : fw_S D A s.heap f1 H locs := by rw [ef1]; exact hw
  have h2 : f1 h0 = some (.inr (1, [.int cv, .int (sv - (if p0 < sv then p0 else sv))])) := by rw [ef1]; exact fw_up_s
  refine lv_aload_n hx hb dX1_receive_19 rfl (lv_at hl 1 rfl) ?_
  refine lv_dup hx hb dX1_receive_20 rfl ?_
  refine fw_get hx hb hts hown hE.1.1 hw (ci := 1) (fs := [.int cv, .int (sv - (if p0 < sv then p0 else sv))]) (v := .int cv) h2 iX1_receive_1 rfl 0 (by decide) rfl (by decide +kernel) dX1_receive_21 ?_
  refine lv_iload_n hx hb dX1_receive_24 rfl (lv_at hl 2 rfl) ?_
  refine lv_iload_n hx hb dX1_receive_25 rfl (lv_at hl 0 rfl) ?_
  refine lv_isub hx hb dX1_receive_26 ?_
  refine lv_iadd hx hb dX1_receive_27 ?_
  refine fw_put hx hb hts hown hE.1.1 hw (ci := 1) (fs := [.int cv, .int (sv - (if p0 < sv then p0 else sv))]) (v := .int (cv + (p0 - (if p0 < sv then p0 else sv)))) h2 iX1_receive_1 tyX1 tyX1_ok nmX1 rfl 0 (by decide) rfl rfl rfl (Nat.le_of_ble_eq_true rfl) (by decide +kernel) dX1_receive_28 (fun H locs hw => ?_)
  obtain ⟨f3, ef3⟩ : ∃ z, z = fw_up f1 h0 (.inr (1, [.int (cv + (p0 - (if p0 < sv then p0 else sv))), .int (sv - (if p0 < sv then p0 else sv))])) := ⟨_, rfl⟩
  have hw : fw_S D A s.heap f3 H locs := by rw [ef3]; exact hw
  have h4 : f3 h0 = some (.inr (1, [.int (cv + (p0 - (if p0 < sv then p0 else sv))), .int (sv - (if p0 < sv then p0 else sv))])) := by rw [ef3]; exact fw_up_s
  exact fw_vret hx hb hr hlocks hw (Nat.le_of_ble_eq_true rfl) (Nat.le_of_ble_eq_true rfl) dX1_receive_31 (by rw [ef3, ef1]; exact fw_up_up)

theorem iX1_lose_1 : ∀ w ∈ wsX10, w ∈ wsX1_lose := by decide +kernel
set_option maxHeartbeats 4000000 in
set_option maxRecDepth 100000 in
/-- Pot.lose -/
theorem c_X1_lose (l : Launch) (D : va_G) (A : Nat → Prop) (y : Nat → ClassId) (sa : Nat → Nat) (f : fw_F) (h0 : Nat) (cv sv p0 : Int32) (hf : f h0 = some (.inr (1, [.int cv, .int sv]))) : Met l yX1_lose wsX1_lose ({ frames := 1, cells := 0, slots := 0, locals := 24 } : Room) (cPc D A y sa f [.ref h0, .int p0]) (cQv D A (fun f1 => f1 = fw_up f h0 (.inr (1, [.int (cv - (if p0 < cv then p0 else cv)), .int (sv + (p0 - (if p0 < cv then p0 else cv)))])))) 0 0 A := by
  refine fw_met (by decide) rfl [.ref h0, .int p0] (Nat.le_of_ble_eq_true rfl) ?_
  intro p e s m args below meth c ls I hin hE hw hl
  obtain ⟨hx, hb, hr, hts, hown, hlocks, hml⟩ := I
  have hown : s.vm.findClass RX1 = some m.cls := hown
  have hl : lv_has ls 3 [(0, .ref h0), (1, .int p0)] := hl
  refine lv_aload_n hx hb dX1_lose_0 rfl (lv_at hl 0 rfl) ?_
  refine fw_get hx hb hts hown hE.1.1 hw (ci := 1) (fs := [.int cv, .int sv]) (v := .int cv) hf iX1_lose_1 rfl 0 (by decide) rfl (by decide +kernel) dX1_lose_1 ?_
  refine lv_iload_n hx hb dX1_lose_4 rfl (lv_at hl 1 rfl) ?_
  refine va_mmin hx hb (hml.trans hl.1.symm) (own := RX1) hown (hts (.methodLink RX1 16 Lib.Math.min.name) (by decide +kernel)) (hts (.static Lib.Math.min.name) (by decide +kernel)) (hts (.initialized "java/lang/Math") (by decide +kernel)) (hts (.code Lib.Math.min.name Lib.Math.min.code 2 (some .int)) (by decide +kernel)) (Nat.le_of_ble_eq_true rfl) (Nat.le_of_ble_eq_true rfl) (Nat.le_of_ble_eq_true rfl) (Nat.le_of_ble_eq_true rfl) dX1_lose_5 ?_
  refine lv_istore_n (lv' := [(2, .int (if p0 < cv then p0 else cv)), (0, .ref h0), (1, .int p0)]) hx hb dX1_lose_8 rfl hl (by decide) rfl (fun ls hl => ?_)
  refine lv_aload_n hx hb dX1_lose_9 rfl (lv_at hl 1 rfl) ?_
  refine lv_dup hx hb dX1_lose_10 rfl ?_
  refine fw_get hx hb hts hown hE.1.1 hw (ci := 1) (fs := [.int cv, .int sv]) (v := .int cv) hf iX1_lose_1 rfl 0 (by decide) rfl (by decide +kernel) dX1_lose_11 ?_
  refine lv_iload_n hx hb dX1_lose_14 rfl (lv_at hl 0 rfl) ?_
  refine lv_isub hx hb dX1_lose_15 ?_
  refine fw_put hx hb hts hown hE.1.1 hw (ci := 1) (fs := [.int cv, .int sv]) (v := .int (cv - (if p0 < cv then p0 else cv))) hf iX1_lose_1 tyX1 tyX1_ok nmX1 rfl 0 (by decide) rfl rfl rfl (Nat.le_of_ble_eq_true rfl) (by decide +kernel) dX1_lose_16 (fun H locs hw => ?_)
  obtain ⟨f1, ef1⟩ : ∃ z, z = fw_up f h0 (.inr (1, [.int (cv - (if p0 < cv then p0 else cv)), .int sv])) := ⟨_, rfl⟩
  have hw : fw_S D A s.heap f1 H locs := by rw [ef1]; exact hw
  have h2 : f1 h0 = some (.inr (1, [.int (cv - (if p0 < cv then p0 else cv)), .int sv])) := by rw [ef1]; exact fw_up_s
  refine lv_aload_n hx hb dX1_lose_19 rfl (lv_at hl 1 rfl) ?_
  refine lv_dup hx hb dX1_lose_20 rfl ?_
  refine fw_get hx hb hts hown hE.1.1 hw (ci := 1) (fs := [.int (cv - (if p0 < cv then p0 else cv)), .int sv]) (v := .int sv) h2 iX1_lose_1 rfl 1 (by decide) rfl (by decide +kernel) dX1_lose_21 ?_
  refine lv_iload_n hx hb dX1_lose_24 rfl (lv_at hl 2 rfl) ?_
  refine lv_iload_n hx hb dX1_lose_25 rfl (lv_at hl 0 rfl) ?_
  refine lv_isub hx hb dX1_lose_26 ?_
  refine lv_iadd hx hb dX1_lose_27 ?_
  refine fw_put hx hb hts hown hE.1.1 hw (ci := 1) (fs := [.int (cv - (if p0 < cv then p0 else cv)), .int sv]) (v := .int (sv + (p0 - (if p0 < cv then p0 else cv)))) h2 iX1_lose_1 tyX1 tyX1_ok nmX1 rfl 1 (by decide) rfl rfl rfl (Nat.le_of_ble_eq_true rfl) (by decide +kernel) dX1_lose_28 (fun H locs hw => ?_)
  obtain ⟨f3, ef3⟩ : ∃ z, z = fw_up f1 h0 (.inr (1, [.int (cv - (if p0 < cv then p0 else cv)), .int (sv + (p0 - (if p0 < cv then p0 else cv)))])) := ⟨_, rfl⟩
  have hw : fw_S D A s.heap f3 H locs := by rw [ef3]; exact hw
  have h4 : f3 h0 = some (.inr (1, [.int (cv - (if p0 < cv then p0 else cv)), .int (sv + (p0 - (if p0 < cv then p0 else cv)))])) := by rw [ef3]; exact fw_up_s
  exact fw_vret hx hb hr hlocks hw (Nat.le_of_ble_eq_true rfl) (Nat.le_of_ble_eq_true rfl) dX1_lose_31 (by rw [ef3, ef1]; exact fw_up_up)

theorem iX4_init_4 : ∀ w ∈ wsX40, w ∈ wsX4_init := by decide +kernel
set_option maxHeartbeats 4000000 in
set_option maxRecDepth 100000 in
/-- Sheet(week, day, night) -/
theorem c_X4_init (l : Launch) (D : va_G) (A : Nat → Prop) (y : Nat → ClassId) (sa : Nat → Nat) (f : fw_F) (h0 : Nat) (p0 : Int32) (p1 : Int32) (p2 : Int32) (hf : f h0 = some (.inr (4, [.int 0, .int 0, .int 0]))) : Met l yX4_init wsX4_init ({ frames := 1, cells := 0, slots := 0, locals := 20 } : Room) (cPc D A y sa f [.ref h0, .int p0, .int p1, .int p2]) (cQv D A (fun f1 => f1 = fw_up f h0 (.inr (4, [.int p0, .int p1, .int p2])))) 0 0 A := by
  refine fw_met (by decide) rfl [.ref h0, .int p0, .int p1, .int p2] (Nat.le_of_ble_eq_true rfl) ?_
  intro p e s m args below meth c ls I hin hE hw hl
  obtain ⟨hx, hb, hr, hts, hown, hlocks, hml⟩ := I
  have hown : s.vm.findClass RX4 = some m.cls := hown
  have hl : lv_has ls 4 [(0, .ref h0), (1, .int p0), (2, .int p1), (3, .int p2)] := hl
  refine lv_aload_n hx hb dX4_init_0 rfl (lv_at hl 0 rfl) ?_
  refine W.objInit hx hb hown (hts (.methodLink RX4 1 objectInit) (by decide +kernel)) (hts (.instanceMethod objectInit) (by decide +kernel)) (hts (.code objectInit ⟨#[0xb1]⟩ 1 none) (by decide +kernel)) rfl (by rw [hml]; exact hl.1) rfl dX4_init_1 (Nat.le_of_ble_eq_true rfl) (Nat.le_of_ble_eq_true rfl) ?_
  refine W.eq (g2 := F0 m 4 ls []) rfl ?_
  refine lv_aload_n hx hb dX4_init_4 rfl (lv_at hl 0 rfl) ?_
  refine lv_iload_n hx hb dX4_init_5 rfl (lv_at hl 1 rfl) ?_
  refine fw_putF hx hb hts hown hE.1.1 hw (ci := 4) (fs := [.int 0, .int 0, .int 0]) (v := .int p0) hf iX4_init_4 tyX4 tyX4_ok nmX4 rfl 0 (by decide) rfl (hin rfl) rfl rfl rfl (Nat.le_of_ble_eq_true rfl) (by decide +kernel) dX4_init_6 (fun H locs hw => ?_)
  obtain ⟨f1, ef1⟩ : ∃ z, z = fw_up f h0 (.inr (4, [.int p0, .int 0, .int 0])) := ⟨_, rfl⟩
  have hw : fw_S D A s.heap f1 H locs := by rw [ef1]; exact hw
  have h2 : f1 h0 = some (.inr (4, [.int p0, .int 0, .int 0])) := by rw [ef1]; exact fw_up_s
  refine lv_aload_n hx hb dX4_init_9 rfl (lv_at hl 0 rfl) ?_
  refine lv_iload_n hx hb dX4_init_10 rfl (lv_at hl 2 rfl) ?_
  refine fw_put hx hb hts hown hE.1.1 hw (ci := 4) (fs := [.int p0, .int 0, .int 0]) (v := .int p1) h2 iX4_init_4 tyX4 tyX4_ok nmX4 rfl 1 (by decide) rfl rfl rfl (Nat.le_of_ble_eq_true rfl) (by decide +kernel) dX4_init_11 (fun H locs hw => ?_)
  obtain ⟨f3, ef3⟩ : ∃ z, z = fw_up f1 h0 (.inr (4, [.int p0, .int p1, .int 0])) := ⟨_, rfl⟩
  have hw : fw_S D A s.heap f3 H locs := by rw [ef3]; exact hw
  have h4 : f3 h0 = some (.inr (4, [.int p0, .int p1, .int 0])) := by rw [ef3]; exact fw_up_s
  refine lv_aload_n hx hb dX4_init_14 rfl (lv_at hl 0 rfl) ?_
  refine lv_iload_n hx hb dX4_init_15 rfl (lv_at hl 3 rfl) ?_
  refine fw_put hx hb hts hown hE.1.1 hw (ci := 4) (fs := [.int p0, .int p1, .int 0]) (v := .int p2) h4 iX4_init_4 tyX4 tyX4_ok nmX4 rfl 2 (by decide) rfl rfl rfl (Nat.le_of_ble_eq_true rfl) (by decide +kernel) dX4_init_16 (fun H locs hw => ?_)
  obtain ⟨f5, ef5⟩ : ∃ z, z = fw_up f3 h0 (.inr (4, [.int p0, .int p1, .int p2])) := ⟨_, rfl⟩
  have hw : fw_S D A s.heap f5 H locs := by rw [ef5]; exact hw
  have h6 : f5 h0 = some (.inr (4, [.int p0, .int p1, .int p2])) := by rw [ef5]; exact fw_up_s
  exact fw_vret hx hb hr hlocks hw (Nat.le_of_ble_eq_true rfl) (Nat.le_of_ble_eq_true rfl) dX4_init_19 (by rw [ef5, ef3, ef1]; simp only [fw_up_up])

theorem iX5_init_5 : ∀ w ∈ wsX50, w ∈ wsX5_init := by decide +kernel
set_option maxHeartbeats 4000000 in
set_option maxRecDepth 100000 in
/-- Slip(..) -/
theorem c_X5_init (l : Launch) (D : va_G) (A : Nat → Prop) (y : Nat → ClassId) (sa : Nat → Nat) (f : fw_F) (h0 : Nat) (p0 : Int32) (p1 : Int32) (p2 : Int32) (p3 : Int32) (hf : f h0 = some (.inr (5, [.int 0, .int 0, .int 0, .int 0]))) : Met l yX5_init wsX5_init ({ frames := 1, cells := 0, slots := 0, locals := 20 } : Room) (cPc D A y sa f [.ref h0, .int p0, .int p1, .int p2, .int p3]) (cQv D A (fun f1 => f1 = fw_up f h0 (.inr (5, [.int p0, .int p1, .int p2, .int p3])))) 0 0 A := by
  refine fw_met (by decide) rfl [.ref h0, .int p0, .int p1, .int p2, .int p3] (Nat.le_of_ble_eq_true rfl) ?_
  intro p e s m args below meth c ls I hin hE hw hl
  obtain ⟨hx, hb, hr, hts, hown, hlocks, hml⟩ := I
  have hown : s.vm.findClass RX5 = some m.cls := hown
  have hl : lv_has ls 5 [(0, .ref h0), (1, .int p0), (2, .int p1), (3, .int p2), (4, .int p3)] := hl
  refine lv_aload_n hx hb dX5_init_0 rfl (lv_at hl 0 rfl) ?_
  refine W.objInit hx hb hown (hts (.methodLink RX5 3 objectInit) (by decide +kernel)) (hts (.instanceMethod objectInit) (by decide +kernel)) (hts (.code objectInit ⟨#[0xb1]⟩ 1 none) (by decide +kernel)) rfl (by rw [hml]; exact hl.1) rfl dX5_init_1 (Nat.le_of_ble_eq_true rfl) (Nat.le_of_ble_eq_true rfl) ?_
  refine W.eq (g2 := F0 m 4 ls []) rfl ?_
  refine lv_aload_n hx hb dX5_init_4 rfl (lv_at hl 0 rfl) ?_
  refine lv_iload_n hx hb dX5_init_5 rfl (lv_at hl 1 rfl) ?_
  refine fw_putF hx hb hts hown hE.1.1 hw (ci := 5) (fs := [.int 0, .int 0, .int 0, .int 0]) (v := .int p0) hf iX5_init_5 tyX5 tyX5_ok nmX5 rfl 0 (by decide) rfl (hin rfl) rfl rfl rfl (Nat.le_of_ble_eq_true rfl) (by decide +kernel) dX5_init_6 (fun H locs hw => ?_)
  obtain ⟨f1, ef1⟩ : ∃ z, z = fw_up f h0 (.inr (5, [.int p0, .int 0, .int 0, .int 0])) := ⟨_, rfl⟩
  have hw : fw_S D A s.heap f1 H locs := by rw [ef1]; exact hw
  have h2 : f1 h0 = some (.inr (5, [.int p0, .int 0, .int 0, .int 0])) := by rw [ef1]; exact fw_up_s
  refine lv_aload_n hx hb dX5_init_9 rfl (lv_at hl 0 rfl) ?_
  refine lv_iload_n hx hb dX5_init_10 rfl (lv_at hl 2 rfl) ?_
  refine fw_putF hx hb hts hown hE.1.1 hw (ci := 5) (fs := [.int p0, .int 0, .int 0, .int 0]) (v := .int p1) h2 iX5_init_5 tyX5 tyX5_ok nmX5 rfl 1 (by decide) rfl (hin rfl) rfl rfl rfl (Nat.le_of_ble_eq_true rfl) (by decide +kernel) dX5_init_11 (fun H locs hw => ?_)
  obtain ⟨f3, ef3⟩ : ∃ z, z = fw_up f1 h0 (.inr (5, [.int p0, .int p1, .int 0, .int 0])) := ⟨_, rfl⟩
  have hw : fw_S D A s.heap f3 H locs := by rw [ef3]; exact hw
  have h4 : f3 h0 = some (.inr (5, [.int p0, .int p1, .int 0, .int 0])) := by rw [ef3]; exact fw_up_s
  refine lv_aload_n hx hb dX5_init_14 rfl (lv_at hl 0 rfl) ?_
  refine lv_iload_n hx hb dX5_init_15 rfl (lv_at hl 3 rfl) ?_
  refine fw_putF hx hb hts hown hE.1.1 hw (ci := 5) (fs := [.int p0, .int p1, .int 0, .int 0]) (v := .int p2) h4 iX5_init_5 tyX5 tyX5_ok nmX5 rfl 2 (by decide) rfl (hin rfl) rfl rfl rfl (Nat.le_of_ble_eq_true rfl) (by decide +kernel) dX5_init_16 (fun H locs hw => ?_)
  obtain ⟨f5, ef5⟩ : ∃ z, z = fw_up f3 h0 (.inr (5, [.int p0, .int p1, .int p2, .int 0])) := ⟨_, rfl⟩
  have hw : fw_S D A s.heap f5 H locs := by rw [ef5]; exact hw
  have h6 : f5 h0 = some (.inr (5, [.int p0, .int p1, .int p2, .int 0])) := by rw [ef5]; exact fw_up_s
  refine lv_aload_n hx hb dX5_init_19 rfl (lv_at hl 0 rfl) ?_
  refine lv_iload hx hb dX5_init_20 (lv_at hl 4 rfl) ?_
  refine fw_putF hx hb hts hown hE.1.1 hw (ci := 5) (fs := [.int p0, .int p1, .int p2, .int 0]) (v := .int p3) h6 iX5_init_5 tyX5 tyX5_ok nmX5 rfl 3 (by decide) rfl (hin rfl) rfl rfl rfl (Nat.le_of_ble_eq_true rfl) (by decide +kernel) dX5_init_22 (fun H locs hw => ?_)
  obtain ⟨f7, ef7⟩ : ∃ z, z = fw_up f5 h0 (.inr (5, [.int p0, .int p1, .int p2, .int p3])) := ⟨_, rfl⟩
  have hw : fw_S D A s.heap f7 H locs := by rw [ef7]; exact hw
  have h8 : f7 h0 = some (.inr (5, [.int p0, .int p1, .int p2, .int p3])) := by rw [ef7]; exact fw_up_s
  exact fw_vret hx hb hr hlocks hw (Nat.le_of_ble_eq_true rfl) (Nat.le_of_ble_eq_true rfl) dX5_init_25 (by rw [ef7, ef5, ef3, ef1]; simp only [fw_up_up])

theorem iX6_init_6 : ∀ w ∈ wsX60, w ∈ wsX6_init := by decide +kernel
set_option maxHeartbeats 4000000 in
set_option maxRecDepth 100000 in
/-- Transfer(pot, amount) -/
theorem c_X6_init (l : Launch) (D : va_G) (A : Nat → Prop) (y : Nat → ClassId) (sa : Nat → Nat) (f : fw_F) (h0 : Nat) (p0 : Nat) (p1 : Int32) (hf : f h0 = some (.inr (6, [.null, .int 0, .int 0]))) : Met l yX6_init wsX6_init ({ frames := 1, cells := 0, slots := 0, locals := 20 } : Room) (cPc D A y sa f [.ref h0, .ref p0, .int p1]) (cQv D A (fun f1 => f1 = fw_up f h0 (.inr (6, [.ref p0, .int p1, .int 0])))) 0 0 A := by
  refine fw_met (by decide) rfl [.ref h0, .ref p0, .int p1] (Nat.le_of_ble_eq_true rfl) ?_
  intro p e s m args below meth c ls I hin hE hw hl
  obtain ⟨hx, hb, hr, hts, hown, hlocks, hml⟩ := I
  have hown : s.vm.findClass RX6 = some m.cls := hown
  have hl : lv_has ls 3 [(0, .ref h0), (1, .ref p0), (2, .int p1)] := hl
  refine lv_aload_n hx hb dX6_init_0 rfl (lv_at hl 0 rfl) ?_
  refine W.objInit hx hb hown (hts (.methodLink RX6 1 objectInit) (by decide +kernel)) (hts (.instanceMethod objectInit) (by decide +kernel)) (hts (.code objectInit ⟨#[0xb1]⟩ 1 none) (by decide +kernel)) rfl (by rw [hml]; exact hl.1) rfl dX6_init_1 (Nat.le_of_ble_eq_true rfl) (Nat.le_of_ble_eq_true rfl) ?_
  refine W.eq (g2 := F0 m 4 ls []) rfl ?_
  refine lv_aload_n hx hb dX6_init_4 rfl (lv_at hl 0 rfl) ?_
  refine lv_iconst (v := 0) hx hb dX6_init_5 (by decide) ?_
  refine fw_put hx hb hts hown hE.1.1 hw (ci := 6) (fs := [.null, .int 0, .int 0]) (v := .int 0) hf iX6_init_6 tyX6 tyX6_ok nmX6 rfl 2 (by decide) rfl (by decide +kernel) rfl (Nat.le_of_ble_eq_true rfl) (by decide +kernel) dX6_init_6 (fun H locs hw => ?_)
  obtain ⟨f1, ef1⟩ : ∃ z, z = fw_up f h0 (.inr (6, [.null, .int 0, .int 0])) := ⟨_, rfl⟩
  have hw : fw_S D A s.heap f1 H locs := by rw [ef1]; exact hw
  have h2 : f1 h0 = some (.inr (6, [.null, .int 0, .int 0])) := by rw [ef1]; exact fw_up_s
  refine lv_aload_n hx hb dX6_init_9 rfl (lv_at hl 0 rfl) ?_
  refine lv_aload_n hx hb dX6_init_10 rfl (lv_at hl 1 rfl) ?_
  refine fw_putF hx hb hts hown hE.1.1 hw (ci := 6) (fs := [.null, .int 0, .int 0]) (v := .ref p0) h2 iX6_init_6 tyX6 tyX6_ok nmX6 rfl 0 (by decide) rfl (hin rfl) rfl rfl rfl (Nat.le_of_ble_eq_true rfl) (by decide +kernel) dX6_init_11 (fun H locs hw => ?_)
  obtain ⟨f3, ef3⟩ : ∃ z, z = fw_up f1 h0 (.inr (6, [.ref p0, .int 0, .int 0])) := ⟨_, rfl⟩
  have hw : fw_S D A s.heap f3 H locs := by rw [ef3]; exact hw
  have h4 : f3 h0 = some (.inr (6, [.ref p0, .int 0, .int 0])) := by rw [ef3]; exact fw_up_s
  refine lv_aload_n hx hb dX6_init_14 rfl (lv_at hl 0 rfl) ?_
  refine lv_iload_n hx hb dX6_init_15 rfl (lv_at hl 2 rfl) ?_
  refine fw_putF hx hb hts hown hE.1.1 hw (ci := 6) (fs := [.ref p0, .int 0, .int 0]) (v := .int p1) h4 iX6_init_6 tyX6 tyX6_ok nmX6 rfl 1 (by decide) rfl (hin rfl) rfl rfl rfl (Nat.le_of_ble_eq_true rfl) (by decide +kernel) dX6_init_16 (fun H locs hw => ?_)
  obtain ⟨f5, ef5⟩ : ∃ z, z = fw_up f3 h0 (.inr (6, [.ref p0, .int p1, .int 0])) := ⟨_, rfl⟩
  have hw : fw_S D A s.heap f5 H locs := by rw [ef5]; exact hw
  have h6 : f5 h0 = some (.inr (6, [.ref p0, .int p1, .int 0])) := by rw [ef5]; exact fw_up_s
  exact fw_vret hx hb hr hlocks hw (Nat.le_of_ble_eq_true rfl) (Nat.le_of_ble_eq_true rfl) dX6_init_19 (by rw [ef5, ef3, ef1]; simp only [fw_up_up])

theorem iX0_init_0 : ∀ w ∈ wsX00, w ∈ wsX0_init := by decide +kernel
set_option maxHeartbeats 4000000 in
set_option maxRecDepth 100000 in
/-- Order(..) -/
theorem c_X0_init (l : Launch) (D : va_G) (A : Nat → Prop) (y : Nat → ClassId) (sa : Nat → Nat) (f : fw_F) (h0 : Nat) (p0 : Nat) (p1 : Int32) (p2 : Int32) (p3 : Int32) (hf : f h0 = some (.inr (0, [.null, .int 0, .int 0, .int 0]))) : Met l yX0_init wsX0_init ({ frames := 1, cells := 0, slots := 0, locals := 20 } : Room) (cPc D A y sa f [.ref h0, .ref p0, .int p1, .int p2, .int p3]) (cQv D A (fun f1 => f1 = fw_up f h0 (.inr (0, [.ref p0, .int p1, .int p2, .int p3])))) 0 0 A := by
  refine fw_met (by decide) rfl [.ref h0, .ref p0, .int p1, .int p2, .int p3] (Nat.le_of_ble_eq_true rfl) ?_
  intro p e s m args below meth c ls I hin hE hw hl
  obtain ⟨hx, hb, hr, hts, hown, hlocks, hml⟩ := I
  have hown : s.vm.findClass RX0 = some m.cls := hown
  have hl : lv_has ls 5 [(0, .ref h0), (1, .ref p0), (2, .int p1), (3, .int p2), (4, .int p3)] := hl
  refine lv_aload_n hx hb dX0_init_0 rfl (lv_at hl 0 rfl) ?_
  refine W.objInit hx hb hown (hts (.methodLink RX0 1 objectInit) (by decide +kernel)) (hts (.instanceMethod objectInit) (by decide +kernel)) (hts (.code objectInit ⟨#[0xb1]⟩ 1 none) (by decide +kernel)) rfl (by rw [hml]; exact hl.1) rfl dX0_init_1 (Nat.le_of_ble_eq_true rfl) (Nat.le_of_ble_eq_true rfl) ?_
  refine W.eq (g2 := F0 m 4 ls []) rfl ?_
  refine lv_aload_n hx hb dX0_init_4 rfl (lv_at hl 0 rfl) ?_
  refine lv_aload_n hx hb dX0_init_5 rfl (lv_at hl 1 rfl) ?_
  refine fw_putF hx hb hts hown hE.1.1 hw (ci := 0) (fs := [.null, .int 0, .int 0, .int 0]) (v := .ref p0) hf iX0_init_0 tyX0 tyX0_ok nmX0 rfl 0 (by decide) rfl (hin rfl) rfl rfl rfl (Nat.le_of_ble_eq_true rfl) (by decide +kernel) dX0_init_6 (fun H locs hw => ?_)
  obtain ⟨f1, ef1⟩ : ∃ z, z = fw_up f h0 (.inr (0, [.ref p0, .int 0, .int 0, .int 0])) := ⟨_, rfl⟩
  have hw : fw_S D A s.heap f1 H locs := by rw [ef1]; exact hw
  have h2 : f1 h0 = some (.inr (0, [.ref p0, .int 0, .int 0, .int 0])) := by rw [ef1]; exact fw_up_s
  refine lv_aload_n hx hb dX0_init_9 rfl (lv_at hl 0 rfl) ?_
  refine lv_iload_n hx hb dX0_init_10 rfl (lv_at hl 2 rfl) ?_
  refine fw_putF hx hb hts hown hE.1.1 hw (ci := 0) (fs := [.ref p0, .int 0, .int 0, .int 0]) (v := .int p1) h2 iX0_init_0 tyX0 tyX0_ok nmX0 rfl 1 (by decide) rfl (hin rfl) rfl rfl rfl (Nat.le_of_ble_eq_true rfl) (by decide +kernel) dX0_init_11 (fun H locs hw => ?_)
  obtain ⟨f3, ef3⟩ : ∃ z, z = fw_up f1 h0 (.inr (0, [.ref p0, .int p1, .int 0, .int 0])) := ⟨_, rfl⟩
  have hw : fw_S D A s.heap f3 H locs := by rw [ef3]; exact hw
  have h4 : f3 h0 = some (.inr (0, [.ref p0, .int p1, .int 0, .int 0])) := by rw [ef3]; exact fw_up_s
  refine lv_aload_n hx hb dX0_init_14 rfl (lv_at hl 0 rfl) ?_
  refine lv_iload_n hx hb dX0_init_15 rfl (lv_at hl 3 rfl) ?_
  refine fw_put hx hb hts hown hE.1.1 hw (ci := 0) (fs := [.ref p0, .int p1, .int 0, .int 0]) (v := .int p2) h4 iX0_init_0 tyX0 tyX0_ok nmX0 rfl 2 (by decide) rfl rfl rfl (Nat.le_of_ble_eq_true rfl) (by decide +kernel) dX0_init_16 (fun H locs hw => ?_)
  obtain ⟨f5, ef5⟩ : ∃ z, z = fw_up f3 h0 (.inr (0, [.ref p0, .int p1, .int p2, .int 0])) := ⟨_, rfl⟩
  have hw : fw_S D A s.heap f5 H locs := by rw [ef5]; exact hw
  have h6 : f5 h0 = some (.inr (0, [.ref p0, .int p1, .int p2, .int 0])) := by rw [ef5]; exact fw_up_s
  refine lv_aload_n hx hb dX0_init_19 rfl (lv_at hl 0 rfl) ?_
  refine lv_iload hx hb dX0_init_20 (lv_at hl 4 rfl) ?_
  refine fw_putF hx hb hts hown hE.1.1 hw (ci := 0) (fs := [.ref p0, .int p1, .int p2, .int 0]) (v := .int p3) h6 iX0_init_0 tyX0 tyX0_ok nmX0 rfl 3 (by decide) rfl (hin rfl) rfl rfl rfl (Nat.le_of_ble_eq_true rfl) (by decide +kernel) dX0_init_22 (fun H locs hw => ?_)
  obtain ⟨f7, ef7⟩ : ∃ z, z = fw_up f5 h0 (.inr (0, [.ref p0, .int p1, .int p2, .int p3])) := ⟨_, rfl⟩
  have hw : fw_S D A s.heap f7 H locs := by rw [ef7]; exact hw
  have h8 : f7 h0 = some (.inr (0, [.ref p0, .int p1, .int p2, .int p3])) := by rw [ef7]; exact fw_up_s
  exact fw_vret hx hb hr hlocks hw (Nat.le_of_ble_eq_true rfl) (Nat.le_of_ble_eq_true rfl) dX0_init_25 (by rw [ef7, ef5, ef3, ef1]; simp only [fw_up_up])

theorem iX0_payOff_0 : ∀ w ∈ wsX00, w ∈ wsX0_payOff := by decide +kernel
set_option maxHeartbeats 4000000 in
set_option maxRecDepth 100000 in
/-- Order.payOff -/
theorem c_X0_payOff (l : Launch) (D : va_G) (A : Nat → Prop) (y : Nat → ClassId) (sa : Nat → Nat) (f : fw_F) (h0 wv : Nat) (gv lv0 mv p0 : Int32) (hf : f h0 = some (.inr (0, [.ref wv, .int gv, .int lv0, .int mv]))) : Met l yX0_payOff wsX0_payOff ({ frames := 1, cells := 0, slots := 0, locals := 26 } : Room) (cPc D A y sa f [.ref h0, .int p0]) (cQi D A (fun r f1 => r = payv p0 lv0 mv ∧ f1 = fw_up f h0 (.inr (0, [.ref wv, .int gv, .int (lv0 - payv p0 lv0 mv), .int mv])))) 0 0 A := by
  refine fw_met (by decide) rfl [.ref h0, .int p0] (Nat.le_of_ble_eq_true rfl) ?_
  intro p e s m args below meth c ls I hin hE hw hl
  obtain ⟨hx, hb, hr, hts, hown, hlocks, hml⟩ := I
  have hown : s.vm.findClass RX0 = some m.cls := hown
  have hl : lv_has ls 3 [(0, .ref h0), (1, .int p0)] := hl
  refine lv_iconst (v := 0) hx hb dX0_payOff_0 (by decide) ?_
  refine lv_iload_n hx hb dX0_payOff_1 rfl (lv_at hl 1 rfl) ?_
  refine lv_aload_n hx hb dX0_payOff_2 rfl (lv_at hl 0 rfl) ?_
  refine fw_get hx hb hts hown hE.1.1 hw (ci := 0) (fs := [.ref wv, .int gv, .int lv0, .int mv]) (v := .int lv0) hf iX0_payOff_0 rfl 2 (by decide) rfl (by decide +kernel) dX0_payOff_3 ?_
  refine lv_aload_n hx hb dX0_payOff_6 rfl (lv_at hl 0 rfl) ?_
  refine fw_get hx hb hts hown hE.1.1 hw (ci := 0) (fs := [.ref wv, .int gv, .int lv0, .int mv]) (v := .int mv) hf iX0_payOff_0 rfl 3 (by decide) rfl (by decide +kernel) dX0_payOff_7 ?_
  refine va_mmin hx hb (hml.trans hl.1.symm) (own := RX0) hown (hts (.methodLink RX0 23 Lib.Math.min.name) (by decide +kernel)) (hts (.static Lib.Math.min.name) (by decide +kernel)) (hts (.initialized "java/lang/Math") (by decide +kernel)) (hts (.code Lib.Math.min.name Lib.Math.min.code 2 (some .int)) (by decide +kernel)) (Nat.le_of_ble_eq_true rfl) (Nat.le_of_ble_eq_true rfl) (Nat.le_of_ble_eq_true rfl) (Nat.le_of_ble_eq_true rfl) dX0_payOff_10 ?_
  refine va_mmin hx hb (hml.trans hl.1.symm) (own := RX0) hown (hts (.methodLink RX0 23 Lib.Math.min.name) (by decide +kernel)) (hts (.static Lib.Math.min.name) (by decide +kernel)) (hts (.initialized "java/lang/Math") (by decide +kernel)) (hts (.code Lib.Math.min.name Lib.Math.min.code 2 (some .int)) (by decide +kernel)) (Nat.le_of_ble_eq_true rfl) (Nat.le_of_ble_eq_true rfl) (Nat.le_of_ble_eq_true rfl) (Nat.le_of_ble_eq_true rfl) dX0_payOff_13 ?_
  refine va_mmax hx hb (hml.trans hl.1.symm) (own := RX0) hown (hts (.methodLink RX0 29 Lib.Math.max.name) (by decide +kernel)) (hts (.static Lib.Math.max.name) (by decide +kernel)) (hts (.initialized "java/lang/Math") (by decide +kernel)) (hts (.code Lib.Math.max.name Lib.Math.max.code 2 (some .int)) (by decide +kernel)) (Nat.le_of_ble_eq_true rfl) (Nat.le_of_ble_eq_true rfl) (Nat.le_of_ble_eq_true rfl) (Nat.le_of_ble_eq_true rfl) dX0_payOff_16 ?_
  refine lv_istore_n (lv' := [(2, .int (if 0 < (if (if mv < lv0 then mv else lv0) < p0 then (if mv < lv0 then mv else lv0) else p0) then (if (if mv < lv0 then mv else lv0) < p0 then (if mv < lv0 then mv else lv0) else p0) else 0)), (0, .ref h0), (1, .int p0)]) hx hb dX0_payOff_19 rfl hl (by decide) rfl (fun ls hl => ?_)
  refine lv_aload_n hx hb dX0_payOff_20 rfl (lv_at hl 1 rfl) ?_
  refine lv_dup hx hb dX0_payOff_21 rfl ?_
  refine fw_get hx hb hts hown hE.1.1 hw (ci := 0) (fs := [.ref wv, .int gv, .int lv0, .int mv]) (v := .int lv0) hf iX0_payOff_0 rfl 2 (by decide) rfl (by decide +kernel) dX0_payOff_22 ?_
  refine lv_iload_n hx hb dX0_payOff_25 rfl (lv_at hl 0 rfl) ?_
  refine lv_isub hx hb dX0_payOff_26 ?_
  refine fw_put hx hb hts hown hE.1.1 hw (ci := 0) (fs := [.ref wv, .int gv, .int lv0, .int mv]) (v := .int (lv0 - (if 0 < (if (if mv < lv0 then mv else lv0) < p0 then (if mv < lv0 then mv else lv0) else p0) then (if (if mv < lv0 then mv else lv0) < p0 then (if mv < lv0 then mv else lv0) else p0) else 0))) hf iX0_payOff_0 tyX0 tyX0_ok nmX0 rfl 2 (by decide) rfl rfl rfl (Nat.le_of_ble_eq_true rfl) (by decide +kernel) dX0_payOff_27 (fun H locs hw => ?_)
  obtain ⟨f1, ef1⟩ : ∃ z, z = fw_up f h0 (.inr (0, [.ref wv, .int gv, .int (lv0 - (if 0 < (if (if mv < lv0 then mv else lv0) < p0 then (if mv < lv0 then mv else lv0) else p0) then (if (if mv < lv0 then mv else lv0) < p0 then (if mv < lv0 then mv else lv0) else p0) else 0)), .int mv])) := ⟨_, rfl⟩
  have hw : fw_S D A s.heap f1 H locs := by rw [ef1]; exact hw
  have h2 : f1 h0 = some (.inr (0, [.ref wv, .int gv, .int (lv0 - (if 0 < (if (if mv < lv0 then mv else lv0) < p0 then (if mv < lv0 then mv else lv0) else p0) then (if (if mv < lv0 then mv else lv0) < p0 then (if mv < lv0 then mv else lv0) else p0) else 0)), .int mv])) := by rw [ef1]; exact fw_up_s
  refine lv_iload_n hx hb dX0_payOff_30 rfl (lv_at hl 0 rfl) ?_
  exact fw_iret hx hb hr hlocks hw (Nat.le_of_ble_eq_true rfl) (Nat.le_of_ble_eq_true rfl) dX0_payOff_31 (⟨rfl, by rw [ef1]; rfl⟩)

theorem iX7_owe_7 : ∀ w ∈ wsX70, w ∈ wsX7_owe := by decide +kernel
set_option maxHeartbeats 4000000 in
set_option maxRecDepth 100000 in
/-- Worker.owe -/
theorem c_X7_owe (l : Launch) (D : va_G) (A : Nat → Prop) (y : Nat → ClassId) (sa : Nat → Nat) (f : fw_F) (h0 pv rv shv slv : Nat) (kv cv tv ev p0 : Int32) (hf : f h0 = some (.inr (7, [.ref pv, .ref rv, .int kv, .int cv, .int tv, .int ev, .ref shv, .ref slv]))) : Met l yX7_owe wsX7_owe ({ frames := 1, cells := 0, slots := 0, locals := 20 } : Room) (cPc D A y sa f [.ref h0, .int p0]) (cQv D A (fun f1 => f1 = fw_up f h0 (.inr (7, [.ref pv, .ref rv, .int kv, .int (cv - p0), .int (tv + p0), .int (ev + p0), .ref shv, .ref slv])))) 0 0 A := by
  refine fw_met (by decide) rfl [.ref h0, .int p0] (Nat.le_of_ble_eq_true rfl) ?_
  intro p e s m args below meth c ls I hin hE hw hl
  obtain ⟨hx, hb, hr, hts, hown, hlocks, hml⟩ := I
  have hown : s.vm.findClass RX7 = some m.cls := hown
  have hl : lv_has ls 2 [(0, .ref h0), (1, .int p0)] := hl
  refine lv_aload_n hx hb dX7_owe_0 rfl (lv_at hl 0 rfl) ?_
  refine lv_dup hx hb dX7_owe_1 rfl ?_
  refine fw_get hx hb hts hown hE.1.1 hw (ci := 7) (fs := [.ref pv, .ref rv, .int kv, .int cv, .int tv, .int ev, .ref shv, .ref slv]) (v := .int tv) hf iX7_owe_7 rfl 4 (by decide) rfl (by decide +kernel) dX7_owe_2 ?_
  refine lv_iload_n hx hb dX7_owe_5 rfl (lv_at hl 1 rfl) ?_
  refine lv_iadd hx hb dX7_owe_6 ?_
  refine fw_put hx hb hts hown hE.1.1 hw (ci := 7) (fs := [.ref pv, .ref rv, .int kv, .int cv, .int tv, .int ev, .ref shv, .ref slv]) (v := .int (tv + p0)) hf iX7_owe_7 tyX7 tyX7_ok nmX7 rfl 4 (by decide) rfl rfl rfl (Nat.le_of_ble_eq_true rfl) (by decide +kernel) dX7_owe_7 (fun H locs hw => ?_)
  obtain ⟨f1, ef1⟩ : ∃ z, z = fw_up f h0 (.inr (7, [.ref pv, .ref rv, .int kv, .int cv, .int (tv + p0), .int ev, .ref shv, .ref slv])) := ⟨_, rfl⟩
  have hw : fw_S D A s.heap f1 H locs := by rw [ef1]; exact hw
  have h2 : f1 h0 = some (.inr (7, [.ref pv, .ref rv, .int kv, .int cv, .int (tv + p0), .int ev, .ref shv, .ref slv])) := by rw [ef1]; exact fw_up_s
  refine lv_aload_n hx hb dX7_owe_10 rfl (lv_at hl 0 rfl) ?_
  refine lv_dup hx hb dX7_owe_11 rfl ?_
  refine fw_get hx hb hts hown hE.1.1 hw (ci := 7) (fs := [.ref pv, .ref rv, .int kv, .int cv, .int (tv + p0), .int ev, .ref shv, .ref slv]) (v := .int ev) h2 iX7_owe_7 rfl 5 (by decide) rfl (by decide +kernel) dX7_owe_12 ?_
  refine lv_iload_n hx hb dX7_owe_15 rfl (lv_at hl 1 rfl) ?_
  refine lv_iadd hx hb dX7_owe_16 ?_
  refine fw_put hx hb hts hown hE.1.1 hw (ci := 7) (fs := [.ref pv, .ref rv, .int kv, .int cv, .int (tv + p0), .int ev, .ref shv, .ref slv]) (v := .int (ev + p0)) h2 iX7_owe_7 tyX7 tyX7_ok nmX7 rfl 5 (by decide) rfl rfl rfl (Nat.le_of_ble_eq_true rfl) (by decide +kernel) dX7_owe_17 (fun H locs hw => ?_)
  obtain ⟨f3, ef3⟩ : ∃ z, z = fw_up f1 h0 (.inr (7, [.ref pv, .ref rv, .int kv, .int cv, .int (tv + p0), .int (ev + p0), .ref shv, .ref slv])) := ⟨_, rfl⟩
  have hw : fw_S D A s.heap f3 H locs := by rw [ef3]; exact hw
  have h4 : f3 h0 = some (.inr (7, [.ref pv, .ref rv, .int kv, .int cv, .int (tv + p0), .int (ev + p0), .ref shv, .ref slv])) := by rw [ef3]; exact fw_up_s
  refine lv_aload_n hx hb dX7_owe_20 rfl (lv_at hl 0 rfl) ?_
  refine lv_dup hx hb dX7_owe_21 rfl ?_
  refine fw_get hx hb hts hown hE.1.1 hw (ci := 7) (fs := [.ref pv, .ref rv, .int kv, .int cv, .int (tv + p0), .int (ev + p0), .ref shv, .ref slv]) (v := .int cv) h4 iX7_owe_7 rfl 3 (by decide) rfl (by decide +kernel) dX7_owe_22 ?_
  refine lv_iload_n hx hb dX7_owe_25 rfl (lv_at hl 1 rfl) ?_
  refine lv_isub hx hb dX7_owe_26 ?_
  refine fw_put hx hb hts hown hE.1.1 hw (ci := 7) (fs := [.ref pv, .ref rv, .int kv, .int cv, .int (tv + p0), .int (ev + p0), .ref shv, .ref slv]) (v := .int (cv - p0)) h4 iX7_owe_7 tyX7 tyX7_ok nmX7 rfl 3 (by decide) rfl rfl rfl (Nat.le_of_ble_eq_true rfl) (by decide +kernel) dX7_owe_27 (fun H locs hw => ?_)
  obtain ⟨f5, ef5⟩ : ∃ z, z = fw_up f3 h0 (.inr (7, [.ref pv, .ref rv, .int kv, .int (cv - p0), .int (tv + p0), .int (ev + p0), .ref shv, .ref slv])) := ⟨_, rfl⟩
  have hw : fw_S D A s.heap f5 H locs := by rw [ef5]; exact hw
  have h6 : f5 h0 = some (.inr (7, [.ref pv, .ref rv, .int kv, .int (cv - p0), .int (tv + p0), .int (ev + p0), .ref shv, .ref slv])) := by rw [ef5]; exact fw_up_s
  exact fw_vret hx hb hr hlocks hw (Nat.le_of_ble_eq_true rfl) (Nat.le_of_ble_eq_true rfl) dX7_owe_30 (by rw [ef5, ef3, ef1]; simp only [fw_up_up])
end
section
theorem iX3_inWeek_3 : ∀ w ∈ wsX30, w ∈ wsX3_inWeek := by decide +kernel
set_option maxHeartbeats 4000000 in
set_option maxRecDepth 100000 in
/-- Rule.inWeek -/
theorem c_X3_inWeek (l : Launch) (D : va_G) (A : Nat → Prop) (y : Nat → ClassId) (sa : Nat → Nat) (f : fw_F) (h0 v t w : Nat) (g : Nat → Int32) (hw31 : w < 31) (hf : f h0 = some (.inr (3, [.ref v, .ref t]))) (hv : f v = some (.inl (y 0, 31, .inl g))) : Met l yX3_inWeek wsX3_inWeek ({ frames := 0, cells := 0, slots := 0, locals := 0 } : Room) (cPc D A y sa f [.ref h0, .int (nI w)]) (cQi D A (fun r f1 => r = g w ∧ f1 = f)) 0 0 A := by
  refine fw_met (by decide) rfl [.ref h0, .int (nI w)] (Nat.le_of_ble_eq_true rfl) ?_
  intro p e s m args below meth c ls I hin hE hw hl
  obtain ⟨hx, hb, hr, hts, hown, hlocks, hml⟩ := I
  have hown : s.vm.findClass RX3 = some m.cls := hown
  have hl : lv_has ls 2 [(0, .ref h0), (1, .int (nI w))] := hl
  refine lv_iload_n hx hb dX3_inWeek_0 rfl (lv_at hl 1 rfl) ?_
  refine lv_if_lt (tgt := 22) hx hb dX3_inWeek_1 (by decide) (fun c_1 => ?_) (fun c_1 => ?_)
  · exact absurd c_1 (nI_pos (by omega))
  · refine lv_iload_n hx hb dX3_inWeek_4 rfl (lv_at hl 1 rfl) ?_
    refine lv_aload_n hx hb dX3_inWeek_5 rfl (lv_at hl 0 rfl) ?_
    refine fw_get hx hb hts hown hE.1.1 hw (ci := 3) (fs := [.ref v, .ref t]) (v := .ref v) hf iX3_inWeek_3 rfl 0 (by decide) rfl (by decide +kernel) dX3_inWeek_6 ?_
    refine fw_alen hx hb hE.1.1 hw hv 0 rfl (v := 31) rfl dX3_inWeek_9 ?_
    refine lv_icmp_ge (tgt := 22) hx hb dX3_inWeek_10 (by decide) (fun c_2 => ?_) (fun c_2 => ?_)
    · exact absurd c_2 (nI_ge (b := 31) hw31 (by decide))
    · refine lv_aload_n hx hb dX3_inWeek_13 rfl (lv_at hl 0 rfl) ?_
      refine fw_get hx hb hts hown hE.1.1 hw (ci := 3) (fs := [.ref v, .ref t]) (v := .ref v) hf iX3_inWeek_3 rfl 0 (by decide) rfl (by decide +kernel) dX3_inWeek_14 ?_
      refine lv_iload_n hx hb dX3_inWeek_17 rfl (lv_at hl 1 rfl) ?_
      refine fw_iald hx hb hE.1.1 hw (g := g) hv 0 rfl (vp_in_nI (by omega) (by decide)) dX3_inWeek_18 ?_
      rw [nI_clamp (n := w) (by omega)]
      refine lv_goto (tgt := 23) hx hb dX3_inWeek_19 (by decide) ?_
      exact fw_iret hx hb hr hlocks hw (Nat.le_of_ble_eq_true rfl) (Nat.le_of_ble_eq_true rfl) dX3_inWeek_23 (⟨rfl, rfl⟩)

theorem iX3_tell_3 : ∀ w ∈ wsX30, w ∈ wsX3_tell := by decide +kernel
set_option maxHeartbeats 4000000 in
set_option maxRecDepth 100000 in
/-- Rule.tell -/
theorem c_X3_tell (l : Launch) (D : va_G) (A : Nat → Prop) (y : Nat → ClassId) (sa : Nat → Nat) (f : fw_F) (h0 v t w : Nat) (g td : Nat → Int32) (p1 : Int32) (hw31 : w < 31) (nhv : h0 ≠ v) (nht : h0 ≠ t) (nvt : v ≠ t) (hf : f h0 = some (.inr (3, [.ref v, .ref t]))) (hv : f v = some (.inl (y 0, 31, .inl g))) (ht : f t = some (.inl (y 1, 31, .inl td))) : Met l yX3_tell wsX3_tell ({ frames := 0, cells := 0, slots := 0, locals := 0 } : Room) (cPc D A y sa f [.ref h0, .int (nI w), .int p1]) (cQv D A (fun f1 => f1 = fw_up (fw_up f t (.inl (y 1, 31, .inl (va_up td w 1)))) v (.inl (y 0, 31, .inl (tlV (va_up td w 1) p1 (30 - w) (w + 1) (va_up g w p1)))))) 0 0 A := by
  refine fw_met (by decide) rfl [.ref h0, .int (nI w), .int p1] (Nat.le_of_ble_eq_true rfl) ?_
  intro p e s m args below meth c ls I hin hE hw hl
  obtain ⟨hx, hb, hr, hts, hown, hlocks, hml⟩ := I
  have hown : s.vm.findClass RX3 = some m.cls := hown
  have hl : lv_has ls 4 [(0, .ref h0), (1, .int (nI w)), (2, .int p1)] := hl
  refine lv_iload_n hx hb dX3_tell_0 rfl (lv_at hl 1 rfl) ?_
  refine lv_if_lt (tgt := 22) hx hb dX3_tell_1 (by decide) (fun c_1 => ?_) (fun c_1 => ?_)
  · exact absurd c_1 (nI_pos (by omega))
  · refine lv_iload_n hx hb dX3_tell_4 rfl (lv_at hl 1 rfl) ?_
    refine lv_aload_n hx hb dX3_tell_5 rfl (lv_at hl 0 rfl) ?_
    refine fw_get hx hb hts hown hE.1.1 hw (ci := 3) (fs := [.ref v, .ref t]) (v := .ref v) hf iX3_tell_3 rfl 0 (by decide) rfl (by decide +kernel) dX3_tell_6 ?_
    refine fw_alen hx hb hE.1.1 hw hv 0 rfl (v := 31) rfl dX3_tell_9 ?_
    refine lv_icmp_ge (tgt := 22) hx hb dX3_tell_10 (by decide) (fun c_2 => ?_) (fun c_2 => ?_)
    · exact absurd c_2 (nI_ge (b := 31) hw31 (by decide))
    · refine lv_iload_n hx hb dX3_tell_13 rfl (lv_at hl 1 rfl) ?_
      refine lv_aload_n hx hb dX3_tell_14 rfl (lv_at hl 0 rfl) ?_
      refine fw_get hx hb hts hown hE.1.1 hw (ci := 3) (fs := [.ref v, .ref t]) (v := .ref t) hf iX3_tell_3 rfl 1 (by decide) rfl (by decide +kernel) dX3_tell_15 ?_
      refine fw_alen hx hb hE.1.1 hw ht 1 rfl (v := 31) rfl dX3_tell_18 ?_
      refine lv_icmp_lt (tgt := 23) hx hb dX3_tell_19 (by decide) (fun c_3 => ?_) (fun c_3 => ?_)
      · refine lv_aload_n hx hb dX3_tell_23 rfl (lv_at hl 0 rfl) ?_
        refine fw_get hx hb hts hown hE.1.1 hw (ci := 3) (fs := [.ref v, .ref t]) (v := .ref t) hf iX3_tell_3 rfl 1 (by decide) rfl (by decide +kernel) dX3_tell_24 ?_
        refine lv_iload_n hx hb dX3_tell_27 rfl (lv_at hl 1 rfl) ?_
        refine lv_iconst (v := 1) hx hb dX3_tell_28 (by decide) ?_
        refine fw_zast hx hb hE.1.1 hw (g := td) ht 1 rfl (vp_in_nI (by omega) (by decide)) (by decide +kernel) dX3_tell_29 (fun H locs hw => ?_)
        rw [nI_clamp (n := w) (by omega)] at hw
        obtain ⟨f4, ef4⟩ : ∃ z, z = fw_up f t (.inl (y 1, 31, .inl (va_up td w 1))) := ⟨_, rfl⟩
        have hw : fw_S D A s.heap f4 H locs := by rw [ef4]; exact hw
        have h5 : f4 h0 = some (.inr (3, [.ref v, .ref t])) := by rw [ef4]; exact (fw_up_n nht).trans hf
        have h6 : f4 v = some (.inl (y 0, 31, .inl g)) := by rw [ef4]; exact (fw_up_n nvt).trans hv
        have h7 : f4 t = some (.inl (y 1, 31, .inl (va_up td w 1))) := by rw [ef4]; exact fw_up_s
        refine lv_aload_n hx hb dX3_tell_30 rfl (lv_at hl 0 rfl) ?_
        refine fw_get hx hb hts hown hE.1.1 hw (ci := 3) (fs := [.ref v, .ref t]) (v := .ref v) h5 iX3_tell_3 rfl 0 (by decide) rfl (by decide +kernel) dX3_tell_31 ?_
        refine lv_iload_n hx hb dX3_tell_34 rfl (lv_at hl 1 rfl) ?_
        refine lv_iload_n hx hb dX3_tell_35 rfl (lv_at hl 2 rfl) ?_
        refine fw_iast hx hb hE.1.1 hw (g := g) h6 0 rfl (vp_in_nI (by omega) (by decide)) dX3_tell_36 (fun H locs hw => ?_)
        rw [nI_clamp (n := w) (by omega)] at hw
        obtain ⟨f8, ef8⟩ : ∃ z, z = fw_up f4 v (.inl (y 0, 31, .inl (va_up g w p1))) := ⟨_, rfl⟩
        have hw : fw_S D A s.heap f8 H locs := by rw [ef8]; exact hw
        have h9 : f8 h0 = some (.inr (3, [.ref v, .ref t])) := by rw [ef8]; exact (fw_up_n nhv).trans h5
        have h10 : f8 t = some (.inl (y 1, 31, .inl (va_up td w 1))) := by rw [ef8]; exact (fw_up_n (Ne.symm nvt)).trans h7
        have h11 : f8 v = some (.inl (y 0, 31, .inl (va_up g w p1))) := by rw [ef8]; exact fw_up_s
        refine lv_iload_n hx hb dX3_tell_37 rfl (lv_at hl 1 rfl) ?_
        refine lv_iconst (v := 1) hx hb dX3_tell_38 (by decide) ?_
        refine lv_iadd hx hb dX3_tell_39 ?_
        refine lv_istore_n (lv' := [(3, .int ((nI w) + 1)), (0, .ref h0), (1, .int (nI w)), (2, .int p1)]) hx hb dX3_tell_40 rfl hl (by decide) rfl (fun ls hl => ?_)
        rw [ef8, ef4] at hw
        rw [nI_1] at hl
        refine fw_loop 41 4 (fun r : Nat × (Nat → Int32) => 31 - r.1) (fun r => w + 1 ≤ r.1 ∧ r.1 ≤ 31 ∧ tlV (va_up td w 1) p1 (31 - r.1) r.1 r.2 = tlV (va_up td w 1) p1 (30 - w) (w + 1) (va_up g w p1)) (fun r => fw_up (fw_up f t (.inl (y 1, 31, .inl (va_up td w 1)))) v (.inl (y 0, 31, .inl r.2))) (fun r => [(3, .int (nI r.1)), (0, .ref h0), (1, .int (nI w)), (2, .int p1)]) (fun r => []) (fun r => 0) (fun r => 0) (fun r H locs ls hP hw hl IH => ?_) (w + 1, va_up g w p1) H locs ls ⟨Nat.le_refl _, hw31, by rw [show 31 - (w + 1) = 30 - w by omega]⟩ hw (lv_sub hl [0, 1, 2, 3] rfl)
        obtain ⟨i, gg⟩ := r
        obtain ⟨hP1, hP2, hP3⟩ := hP
        skip
        try dsimp only at hw
        try dsimp only at hl
        try dsimp only at IH
        try dsimp only at ⊢
        dsimp only at hP1 hP2 hP3
        obtain ⟨fa, efa⟩ : ∃ z, z = fw_up (fw_up f t (.inl (y 1, 31, .inl (va_up td w 1)))) v (.inl (y 0, 31, .inl gg)) := ⟨_, rfl⟩
        rw [← efa] at hw
        have hfa : fa h0 = some (.inr (3, [.ref v, .ref t])) := by rw [efa, fw_up_n nhv, fw_up_n nht]; exact hf
        have hva : fa v = some (.inl (y 0, 31, .inl gg)) := by rw [efa]; exact fw_up_s
        have hta : fa t = some (.inl (y 1, 31, .inl (va_up td w 1))) := by rw [efa, fw_up_n (Ne.symm nvt)]; exact fw_up_s
        refine lv_iload_n hx hb dX3_tell_41 rfl (lv_at hl 0 rfl) ?_
        refine lv_aload_n hx hb dX3_tell_42 rfl (lv_at hl 1 rfl) ?_
        refine fw_get hx hb hts hown hE.1.1 hw (ci := 3) (fs := [.ref v, .ref t]) (v := .ref v) hfa iX3_tell_3 rfl 0 (by decide) rfl (by decide +kernel) dX3_tell_43 ?_
        refine fw_alen hx hb hE.1.1 hw hva 0 rfl (v := 31) rfl dX3_tell_46 ?_
        refine lv_icmp_ge (tgt := 82) hx hb dX3_tell_47 (by decide) (fun c_12 => ?_) (fun c_12 => ?_)
        · exact fw_vret hx hb hr hlocks hw (Nat.le_of_ble_eq_true rfl) (Nat.le_of_ble_eq_true rfl) dX3_tell_82 (by obtain rfl := nI_eqn (n := 31) c_12 hP2 (by decide); rw [efa, ← hP3]; rfl)
        · have hi31 : i < 31 := nI_hi (n := 31) c_12 (by omega)
          refine lv_iload_n hx hb dX3_tell_50 rfl (lv_at hl 0 rfl) ?_
          refine lv_aload_n hx hb dX3_tell_51 rfl (lv_at hl 1 rfl) ?_
          refine fw_get hx hb hts hown hE.1.1 hw (ci := 3) (fs := [.ref v, .ref t]) (v := .ref t) hfa iX3_tell_3 rfl 1 (by decide) rfl (by decide +kernel) dX3_tell_52 ?_
          refine fw_alen hx hb hE.1.1 hw hta 1 rfl (v := 31) rfl dX3_tell_55 ?_
          refine lv_icmp_ge (tgt := 82) hx hb dX3_tell_56 (by decide) (fun c_13 => ?_) (fun c_13 => ?_)
          · exact absurd c_13 (nI_ge (b := 31) hi31 (by decide))
          · refine lv_aload_n hx hb dX3_tell_59 rfl (lv_at hl 1 rfl) ?_
            refine fw_get hx hb hts hown hE.1.1 hw (ci := 3) (fs := [.ref v, .ref t]) (v := .ref t) hfa iX3_tell_3 rfl 1 (by decide) rfl (by decide +kernel) dX3_tell_60 ?_
            refine lv_iload_n hx hb dX3_tell_63 rfl (lv_at hl 0 rfl) ?_
            refine fw_zald hx hb hE.1.1 hw (g := (va_up td w 1)) hta 1 rfl (vp_in_nI (by omega) (by decide)) dX3_tell_64 ?_
            rw [nI_clamp (n := i) (by omega)]
            refine lv_if_eq (tgt := 69) hx hb dX3_tell_65 (by decide) (fun c_14 => ?_) (fun c_14 => ?_)
            · refine lv_aload_n hx hb dX3_tell_69 rfl (lv_at hl 1 rfl) ?_
              refine fw_get hx hb hts hown hE.1.1 hw (ci := 3) (fs := [.ref v, .ref t]) (v := .ref v) hfa iX3_tell_3 rfl 0 (by decide) rfl (by decide +kernel) dX3_tell_70 ?_
              refine lv_iload_n hx hb dX3_tell_73 rfl (lv_at hl 0 rfl) ?_
              refine lv_iload_n hx hb dX3_tell_74 rfl (lv_at hl 3 rfl) ?_
              refine fw_iast hx hb hE.1.1 hw (g := gg) hva 0 rfl (vp_in_nI (by omega) (by decide)) dX3_tell_75 (fun H locs hw => ?_)
              rw [nI_clamp (n := i) (by omega)] at hw
              obtain ⟨f15, ef15⟩ : ∃ z, z = fw_up fa v (.inl (y 0, 31, .inl (va_up gg i p1))) := ⟨_, rfl⟩
              have hw : fw_S D A s.heap f15 H locs := by rw [ef15]; exact hw
              have h16 : f15 h0 = some (.inr (3, [.ref v, .ref t])) := by rw [ef15]; exact (fw_up_n nhv).trans hfa
              have h17 : f15 t = some (.inl (y 1, 31, .inl (va_up td w 1))) := by rw [ef15]; exact (fw_up_n (Ne.symm nvt)).trans hta
              have h18 : f15 v = some (.inl (y 0, 31, .inl (va_up gg i p1))) := by rw [ef15]; exact fw_up_s
              refine lv_iinc (v := ((nI i) + 1)) (lv' := [(3, .int ((nI i) + 1)), (0, .ref h0), (1, .int (nI w)), (2, .int p1)]) hx hb dX3_tell_76 hl (k := 0) rfl rfl (by decide) rfl (fun ls hl => ?_)
              refine lv_goto (tgt := 41) hx hb dX3_tell_79 (by decide) ?_
              exact IH (i + 1, va_up gg i p1) _ _ _ (by dsimp only; omega) ⟨by dsimp only; omega, by dsimp only; omega, by dsimp only; rw [← hP3, show 31 - i = (31 - (i + 1)) + 1 by omega, tlV, if_pos c_14]⟩ (by dsimp only; rw [ef15, efa, fw_up_up] at hw; exact hw) (by dsimp only; rw [← nI_1]; exact lv_sub hl [0, 1, 2, 3] rfl)
            · exact fw_vret hx hb hr hlocks hw (Nat.le_of_ble_eq_true rfl) (Nat.le_of_ble_eq_true rfl) dX3_tell_68 (by rw [efa, ← hP3, show 31 - i = (31 - (i + 1)) + 1 by omega, tlV, if_neg c_14])
      · exact absurd (nI_lt (b := 31) hw31 (by decide)) c_3

theorem iX3_init_3 : ∀ w ∈ wsX30, w ∈ wsX3_init := by decide +kernel
set_option maxHeartbeats 4000000 in
set_option maxRecDepth 100000 in
/-- Rule(first) -/
theorem c_X3_init (l : Launch) (D : va_G) (A : Nat → Prop) (y : Nat → ClassId) (sa : Nat → Nat) (f : fw_F) (h0 : Nat) (p0 : Int32) (hf : f h0 = some (.inr (3, [.null, .null]))) : Met l yX3_init wsX3_init ({ frames := 1, cells := 2, slots := 62, locals := 22 } : Room) (cPc D A y sa f [.ref h0, .int p0]) (cQv D A (fun f1 => ∃ v t, f v = none ∧ f t = none ∧ v ≠ t ∧ f1 = fw_up (fw_up (fw_up f v (.inl (y 0, 31, .inl (fillv p0 31)))) t (.inl (y 1, 31, .inl (fun _ => 0)))) h0 (.inr (3, [.ref v, .ref t])))) 2 62 A := by
  refine fw_met (by decide) rfl [.ref h0, .int p0] (Nat.le_of_ble_eq_true rfl) ?_
  intro p e s m args below meth c ls I hin hE hw hl
  obtain ⟨hx, hb, hr, hts, hown, hlocks, hml⟩ := I
  have hown : s.vm.findClass RX3 = some m.cls := hown
  have hl : lv_has ls 3 [(0, .ref h0), (1, .int p0)] := hl
  refine lv_aload_n hx hb dX3_init_0 rfl (lv_at hl 0 rfl) ?_
  refine W.objInit hx hb hown (hts (.methodLink RX3 3 objectInit) (by decide +kernel)) (hts (.instanceMethod objectInit) (by decide +kernel)) (hts (.code objectInit ⟨#[0xb1]⟩ 1 none) (by decide +kernel)) rfl (by rw [hml]; exact hl.1) rfl dX3_init_1 (Nat.le_of_ble_eq_true rfl) (Nat.le_of_ble_eq_true rfl) ?_
  refine W.eq (g2 := F0 m 4 ls []) rfl ?_
  refine lv_aload_n hx hb dX3_init_4 rfl (lv_at hl 0 rfl) ?_
  refine lv_bipush (v := 31) hx hb dX3_init_5 (by decide) ?_
  refine fw_newI hx hb hts hE.1.1 hw hE.2.1 (by decide +kernel) 0 rfl (N := 31) (by decide) rfl (by decide) (Nat.le_of_ble_eq_true rfl) (Nat.le_of_ble_eq_true rfl) dX3_init_7 (fun q1 H hnq1 hw => ?_)
  have hbq1 : f q1 = none := hnq1
  have n2 : h0 ≠ q1 := fun z => absurd (hf.symm.trans ((congrArg f z).trans hnq1)) (by simp)
  obtain ⟨f3, ef3⟩ : ∃ z, z = fw_up f q1 (.inl (y 0, 31, .inl (fun _ => (0 : Int32)))) := ⟨_, rfl⟩
  have hw : fw_S D A s.heap f3 H [] := by rw [ef3]; exact hw
  have h4 : f3 h0 = some (.inr (3, [.null, .null])) := by rw [ef3]; exact (fw_up_n n2).trans hf
  have h5 : f3 q1 = some (.inl (y 0, 31, .inl (fun _ => (0 : Int32)))) := by rw [ef3]; exact fw_up_s
  refine fw_putF hx hb hts hown hE.1.1 hw (ci := 3) (fs := [.null, .null]) (v := .ref q1) h4 iX3_init_3 tyX3 tyX3_ok nmX3 rfl 0 (by decide) rfl (hin rfl) rfl rfl rfl (Nat.le_of_ble_eq_true rfl) (by decide +kernel) dX3_init_9 (fun H locs hw => ?_)
  obtain ⟨f6, ef6⟩ : ∃ z, z = fw_up f3 h0 (.inr (3, [.ref q1, .null])) := ⟨_, rfl⟩
  have hw : fw_S D A s.heap f6 H locs := by rw [ef6]; exact hw
  have h7 : f6 q1 = some (.inl (y 0, 31, .inl (fun _ => (0 : Int32)))) := by rw [ef6]; exact (fw_up_n (Ne.symm n2)).trans h5
  have h8 : f6 h0 = some (.inr (3, [.ref q1, .null])) := by rw [ef6]; exact fw_up_s
  refine lv_aload_n hx hb dX3_init_12 rfl (lv_at hl 0 rfl) ?_
  refine lv_bipush (v := 31) hx hb dX3_init_13 (by decide) ?_
  refine fw_newZ hx hb hts hE.1.1 hw hE.2.1 (by decide +kernel) 1 rfl (N := 31) (by decide) rfl (by decide) (Nat.le_of_ble_eq_true rfl) (Nat.le_of_ble_eq_true rfl) dX3_init_15 (fun q9 H hnq9 hw => ?_)
  have hbq9 : f q9 = none := by have z9 := hnq9; rw [ef6, ef3] at z9; exact (fw_up_o (fw_up_o z9))
  have n10 : q1 ≠ q9 := fun z => absurd (h7.symm.trans ((congrArg f6 z).trans hnq9)) (by simp)
  have n11 : h0 ≠ q9 := fun z => absurd (h8.symm.trans ((congrArg f6 z).trans hnq9)) (by simp)
  obtain ⟨f12, ef12⟩ : ∃ z, z = fw_up f6 q9 (.inl (y 1, 31, .inl (fun _ => (0 : Int32)))) := ⟨_, rfl⟩
  have hw : fw_S D A s.heap f12 H locs := by rw [ef12]; exact hw
  have h13 : f12 q1 = some (.inl (y 0, 31, .inl (fun _ => (0 : Int32)))) := by rw [ef12]; exact (fw_up_n n10).trans h7
  have h14 : f12 h0 = some (.inr (3, [.ref q1, .null])) := by rw [ef12]; exact (fw_up_n n11).trans h8
  have h15 : f12 q9 = some (.inl (y 1, 31, .inl (fun _ => (0 : Int32)))) := by rw [ef12]; exact fw_up_s
  refine fw_putF hx hb hts hown hE.1.1 hw (ci := 3) (fs := [.ref q1, .null]) (v := .ref q9) h14 iX3_init_3 tyX3 tyX3_ok nmX3 rfl 1 (by decide) rfl (hin rfl) rfl rfl rfl (Nat.le_of_ble_eq_true rfl) (by decide +kernel) dX3_init_17 (fun H locs hw => ?_)
  obtain ⟨f16, ef16⟩ : ∃ z, z = fw_up f12 h0 (.inr (3, [.ref q1, .ref q9])) := ⟨_, rfl⟩
  have hw : fw_S D A s.heap f16 H locs := by rw [ef16]; exact hw
  have h17 : f16 q1 = some (.inl (y 0, 31, .inl (fun _ => (0 : Int32)))) := by rw [ef16]; exact (fw_up_n (Ne.symm n2)).trans h13
  have h18 : f16 q9 = some (.inl (y 1, 31, .inl (fun _ => (0 : Int32)))) := by rw [ef16]; exact (fw_up_n (Ne.symm n11)).trans h15
  have h19 : f16 h0 = some (.inr (3, [.ref q1, .ref q9])) := by rw [ef16]; exact fw_up_s
  refine lv_iconst (v := 0) hx hb dX3_init_20 (by decide) ?_
  refine lv_istore_n (lv' := [(2, .int 0), (0, .ref h0), (1, .int p0)]) hx hb dX3_init_21 rfl hl (by decide) rfl (fun ls hl => ?_)
  have hw : fw_S D A s.heap (fw_up (fw_up (fw_up f q1 (.inl (y 0, 31, .inl (fillv p0 0)))) q9 (.inl (y 1, 31, .inl (fun _ => 0)))) h0 (.inr (3, [.ref q1, .ref q9]))) H locs := by rw [ef16, ef12, ef6, ef3, ← fillv_0 (v := p0)] at hw; rw [fw_up_c (a := h0) (b := q9) n11, fw_up_up] at hw; exact hw
  refine fw_loop 22 3 (fun r : Nat => 31 - r) (fun r => r ≤ 31) (fun r => fw_up (fw_up (fw_up f q1 (.inl (y 0, 31, .inl (fillv p0 r)))) q9 (.inl (y 1, 31, .inl (fun _ => 0)))) h0 (.inr (3, [.ref q1, .ref q9]))) (fun r => [(2, .int (nI r)), (0, .ref h0), (1, .int p0)]) (fun r => []) (fun r => 0 + 1 + 1) (fun r => 0 + 31 + 31) (fun i H locs ls hP hw hl IH => ?_) 0 H locs ls (by omega) hw (lv_sub hl [0, 1, 2] rfl)
  try dsimp only at hP
  try dsimp only at hw
  try dsimp only at hl
  try dsimp only at IH
  try dsimp only at ⊢
  obtain ⟨fa, efa⟩ : ∃ z, z = fw_up (fw_up (fw_up f q1 (.inl (y 0, 31, .inl (fillv p0 i)))) q9 (.inl (y 1, 31, .inl (fun _ => 0)))) h0 (.inr (3, [.ref q1, .ref q9])) := ⟨_, rfl⟩
  rw [← efa] at hw
  have hfa : fa h0 = some (.inr (3, [.ref q1, .ref q9])) := by rw [efa]; exact fw_up_s
  have hva : fa q1 = some (.inl (y 0, 31, .inl (fillv p0 i))) := by rw [efa, fw_up_n (Ne.symm n2), fw_up_n n10]; exact fw_up_s
  refine lv_iload_n hx hb dX3_init_22 rfl (lv_at hl 0 rfl) ?_
  refine lv_aload_n hx hb dX3_init_23 rfl (lv_at hl 1 rfl) ?_
  refine fw_get hx hb hts hown hE.1.1 hw (ci := 3) (fs := [.ref q1, .ref q9]) (v := .ref q1) hfa iX3_init_3 rfl 0 (by decide) rfl (by decide +kernel) dX3_init_24 ?_
  refine fw_alen hx hb hE.1.1 hw hva 0 rfl (v := 31) rfl dX3_init_27 ?_
  refine lv_icmp_ge (tgt := 44) hx hb dX3_init_28 (by decide) (fun c_20 => ?_) (fun c_20 => ?_)
  · exact fw_vret hx hb hr hlocks hw (Nat.le_of_ble_eq_true rfl) (Nat.le_of_ble_eq_true rfl) dX3_init_44 (by obtain rfl := nI_eqn (n := 31) c_20 hP (by decide); exact ⟨q1, q9, hbq1, hbq9, n10, efa⟩)
  · have hi31 : i < 31 := nI_hi (n := 31) c_20 (by omega)
    refine lv_aload_n hx hb dX3_init_31 rfl (lv_at hl 1 rfl) ?_
    refine fw_get hx hb hts hown hE.1.1 hw (ci := 3) (fs := [.ref q1, .ref q9]) (v := .ref q1) hfa iX3_init_3 rfl 0 (by decide) rfl (by decide +kernel) dX3_init_32 ?_
    refine lv_iload_n hx hb dX3_init_35 rfl (lv_at hl 0 rfl) ?_
    refine lv_iload_n hx hb dX3_init_36 rfl (lv_at hl 2 rfl) ?_
    refine fw_iast hx hb hE.1.1 hw (g := (fillv p0 i)) hva 0 rfl (vp_in_nI (by omega) (by decide)) dX3_init_37 (fun H locs hw => ?_)
    rw [nI_clamp (n := i) (by omega)] at hw
    obtain ⟨f21, ef21⟩ : ∃ z, z = fw_up fa q1 (.inl (y 0, 31, .inl (va_up (fillv p0 i) i p0))) := ⟨_, rfl⟩
    have hw : fw_S D A s.heap f21 H locs := by rw [ef21]; exact hw
    have h22 : f21 h0 = some (.inr (3, [.ref q1, .ref q9])) := by rw [ef21]; exact (fw_up_n n2).trans hfa
    have h23 : f21 q1 = some (.inl (y 0, 31, .inl (va_up (fillv p0 i) i p0))) := by rw [ef21]; exact fw_up_s
    refine lv_iinc (v := ((nI i) + 1)) (lv' := [(2, .int ((nI i) + 1)), (0, .ref h0), (1, .int p0)]) hx hb dX3_init_38 hl (k := 0) rfl rfl (by decide) rfl (fun ls hl => ?_)
    refine lv_goto (tgt := 22) hx hb dX3_init_41 (by decide) ?_
    exact IH (i + 1) _ _ _ (by omega) (by omega) (by rw [ef21, efa, fillv_s, fw_up_c (a := h0) (b := q1) n2, fw_up_c (a := q9) (b := q1) (Ne.symm n10), fw_up_up] at hw; exact hw) (by rw [← nI_1]; exact lv_sub hl [0, 1, 2] rfl)
end
section
theorem iX5_part_5 : ∀ w ∈ wsX50, w ∈ wsX5_part := by decide +kernel
set_option maxHeartbeats 4000000 in
set_option maxRecDepth 100000 in
/-- Slip.part -/
theorem c_X5_part (l : Launch) (D : va_G) (A : Nat → Prop) (y : Nat → ClassId) (sa : Nat → Nat) (f : fw_F) (h0 k : Nat) (cc0 : Nat → Int32) (hk4 : k < 4) (hf : f h0 = some (.inr (5, [.int (cc0 0), .int (cc0 1), .int (cc0 2), .int (cc0 3)]))) : Met l yX5_part wsX5_part ({ frames := 0, cells := 0, slots := 0, locals := 0 } : Room) (cPc D A y sa f [.ref h0, .int (nI k)]) (cQi D A (fun r f1 => r = cc0 k ∧ f1 = f)) 0 0 A := by
  refine fw_met (by decide) rfl [.ref h0, .int (nI k)] (Nat.le_of_ble_eq_true rfl) ?_
  intro p e s m args below meth c ls I hin hE hw hl
  obtain ⟨hx, hb, hr, hts, hown, hlocks, hml⟩ := I
  have hown : s.vm.findClass RX5 = some m.cls := hown
  have hl : lv_has ls 2 [(0, .ref h0), (1, .int (nI k))] := hl
  refine lv_iload_n hx hb dX5_part_0 rfl (lv_at hl 1 rfl) ?_
  rcases (show k = 0 ∨ k = 1 ∨ k = 2 ∨ k = 3 by omega) with rfl | rfl | rfl | rfl
  · refine lv_tableIn (tgt := 32) hx hb dX5_part_1 (by decide) (by decide) (off := 31) (by decide) (by decide) ?_
    refine lv_aload_n hx hb dX5_part_32 rfl (lv_at hl 0 rfl) ?_
    refine fw_get hx hb hts hown hE.1.1 hw (ci := 5) (fs := [.int (cc0 0), .int (cc0 1), .int (cc0 2), .int (cc0 3)]) (v := .int (cc0 0)) hf iX5_part_5 rfl 0 (by decide) rfl (by decide +kernel) dX5_part_33 ?_
    exact fw_iret hx hb hr hlocks hw (Nat.le_of_ble_eq_true rfl) (Nat.le_of_ble_eq_true rfl) dX5_part_36 (⟨rfl, rfl⟩)
  · refine lv_tableIn (tgt := 37) hx hb dX5_part_1 (by decide) (by decide) (off := 36) (by decide) (by decide) ?_
    refine lv_aload_n hx hb dX5_part_37 rfl (lv_at hl 0 rfl) ?_
    refine fw_get hx hb hts hown hE.1.1 hw (ci := 5) (fs := [.int (cc0 0), .int (cc0 1), .int (cc0 2), .int (cc0 3)]) (v := .int (cc0 1)) hf iX5_part_5 rfl 1 (by decide) rfl (by decide +kernel) dX5_part_38 ?_
    exact fw_iret hx hb hr hlocks hw (Nat.le_of_ble_eq_true rfl) (Nat.le_of_ble_eq_true rfl) dX5_part_41 (⟨rfl, rfl⟩)
  · refine lv_tableIn (tgt := 42) hx hb dX5_part_1 (by decide) (by decide) (off := 41) (by decide) (by decide) ?_
    refine lv_aload_n hx hb dX5_part_42 rfl (lv_at hl 0 rfl) ?_
    refine fw_get hx hb hts hown hE.1.1 hw (ci := 5) (fs := [.int (cc0 0), .int (cc0 1), .int (cc0 2), .int (cc0 3)]) (v := .int (cc0 2)) hf iX5_part_5 rfl 2 (by decide) rfl (by decide +kernel) dX5_part_43 ?_
    exact fw_iret hx hb hr hlocks hw (Nat.le_of_ble_eq_true rfl) (Nat.le_of_ble_eq_true rfl) dX5_part_46 (⟨rfl, rfl⟩)
  · refine lv_tableIn (tgt := 47) hx hb dX5_part_1 (by decide) (by decide) (off := 46) (by decide) (by decide) ?_
    refine lv_aload_n hx hb dX5_part_47 rfl (lv_at hl 0 rfl) ?_
    refine fw_get hx hb hts hown hE.1.1 hw (ci := 5) (fs := [.int (cc0 0), .int (cc0 1), .int (cc0 2), .int (cc0 3)]) (v := .int (cc0 3)) hf iX5_part_5 rfl 3 (by decide) rfl (by decide +kernel) dX5_part_48 ?_
    exact fw_iret hx hb hr hlocks hw (Nat.le_of_ble_eq_true rfl) (Nat.le_of_ble_eq_true rfl) dX5_part_51 (⟨rfl, rfl⟩)

theorem iX7_sheet_7 : ∀ w ∈ wsX70, w ∈ wsX7_sheet := by decide +kernel
set_option maxHeartbeats 4000000 in
set_option maxRecDepth 100000 in
/-- Worker.sheet -/
theorem c_X7_sheet (l : Launch) (D : va_G) (A : Nat → Prop) (y : Nat → ClassId) (sa : Nat → Nat) (f : fw_F) (h0 pv rv shv slv : Nat) (kv cv tv ev : Int32) (p0 : Int32) (S : Nat → Option Nat) (hf : f h0 = some (.inr (7, [.ref pv, .ref rv, .int kv, .int cv, .int tv, .int ev, .ref shv, .ref slv]))) (hsh : f shv = some (.inl (y 5, 20, .inr (.inr (.inr (.inr S)))))) : Met l yX7_sheet wsX7_sheet ({ frames := 0, cells := 0, slots := 0, locals := 0 } : Room) (cPc D A y sa f [.ref h0, .int p0]) (cQq D A (fun r f1 => r = (if (0 : Int32) ≤ p0 ∧ p0 < 20 then S p0.toNatClampNeg else none) ∧ f1 = f)) 0 0 A := by
  refine fw_met (by decide) rfl [.ref h0, .int p0] (Nat.le_of_ble_eq_true rfl) ?_
  intro p e s m args below meth c ls I hin hE hw hl
  obtain ⟨hx, hb, hr, hts, hown, hlocks, hml⟩ := I
  have hown : s.vm.findClass RX7 = some m.cls := hown
  have hl : lv_has ls 2 [(0, .ref h0), (1, .int p0)] := hl
  refine lv_iload_n hx hb dX7_sheet_0 rfl (lv_at hl 1 rfl) ?_
  refine lv_if_lt (tgt := 22) hx hb dX7_sheet_1 (by decide) (fun c_1 => ?_) (fun c_1 => ?_)
  · refine lv_null hx hb dX7_sheet_22 ?_
    exact fw_qret (r := none) hx hb hr hlocks hw (Nat.le_of_ble_eq_true rfl) (Nat.le_of_ble_eq_true rfl) dX7_sheet_23 (⟨(if_neg (fun z => absurd c_1 (Int32.not_lt.mpr z.1))).symm, rfl⟩)
  · refine lv_iload_n hx hb dX7_sheet_4 rfl (lv_at hl 1 rfl) ?_
    refine lv_aload_n hx hb dX7_sheet_5 rfl (lv_at hl 0 rfl) ?_
    refine fw_get hx hb hts hown hE.1.1 hw (ci := 7) (fs := [.ref pv, .ref rv, .int kv, .int cv, .int tv, .int ev, .ref shv, .ref slv]) (v := .ref shv) hf iX7_sheet_7 rfl 6 (by decide) rfl (by decide +kernel) dX7_sheet_6 ?_
    refine fw_alen hx hb hE.1.1 hw hsh 5 rfl (v := 20) rfl dX7_sheet_9 ?_
    refine lv_icmp_ge (tgt := 22) hx hb dX7_sheet_10 (by decide) (fun c_2 => ?_) (fun c_2 => ?_)
    · refine lv_null hx hb dX7_sheet_22 ?_
      exact fw_qret (r := none) hx hb hr hlocks hw (Nat.le_of_ble_eq_true rfl) (Nat.le_of_ble_eq_true rfl) dX7_sheet_23 (⟨(if_neg (fun z => absurd c_2 (Int32.not_le.mpr z.2))).symm, rfl⟩)
    · refine lv_aload_n hx hb dX7_sheet_13 rfl (lv_at hl 0 rfl) ?_
      refine fw_get hx hb hts hown hE.1.1 hw (ci := 7) (fs := [.ref pv, .ref rv, .int kv, .int cv, .int tv, .int ev, .ref shv, .ref slv]) (v := .ref shv) hf iX7_sheet_7 rfl 6 (by decide) rfl (by decide +kernel) dX7_sheet_14 ?_
      refine lv_iload_n hx hb dX7_sheet_17 rfl (lv_at hl 1 rfl) ?_
      refine fw_aald hx hb hE.1.1 hw (g := S) hsh 5 rfl (fw_inB (N := 20) (by decide) c_1 c_2) dX7_sheet_18 ?_
      refine lv_goto (tgt := 23) hx hb dX7_sheet_19 (by decide) ?_
      exact fw_qret hx hb hr hlocks hw (Nat.le_of_ble_eq_true rfl) (Nat.le_of_ble_eq_true rfl) dX7_sheet_23 (⟨(if_pos ⟨Int32.not_lt.mp c_1, Int32.not_le.mp c_2⟩).symm, rfl⟩)

theorem iX7_keepSlip_7 : ∀ w ∈ wsX70, w ∈ wsX7_keepSlip := by decide +kernel
set_option maxHeartbeats 4000000 in
set_option maxRecDepth 100000 in
/-- Worker.keepSlip -/
theorem c_X7_keepSlip (l : Launch) (D : va_G) (A : Nat → Prop) (y : Nat → ClassId) (sa : Nat → Nat) (f : fw_F) (h0 pv rv shv slv : Nat) (kv cv tv ev : Int32) (w q : Nat) (g0 g1 g2 g3 : Int32) (S : Nat → Option Nat) (hw31 : w < 31) (hf : f h0 = some (.inr (7, [.ref pv, .ref rv, .int kv, .int cv, .int tv, .int ev, .ref shv, .ref slv]))) (hsl : f slv = some (.inl (y 6, 31, .inr (.inr (.inr (.inr S)))))) (hq : f q = some (.inr (5, [.int g0, .int g1, .int g2, .int g3]))) : Met l yX7_keepSlip wsX7_keepSlip ({ frames := 0, cells := 0, slots := 0, locals := 0 } : Room) (cPc D A y sa f [.ref h0, .int (nI w), .ref q]) (cQv D A (fun f1 => f1 = fw_up f slv (.inl (y 6, 31, .inr (.inr (.inr (.inr (va_up S w (some q))))))))) 0 0 A := by
  refine fw_met (by decide) rfl [.ref h0, .int (nI w), .ref q] (Nat.le_of_ble_eq_true rfl) ?_
  intro p e s m args below meth c ls I hin hE hw hl
  obtain ⟨hx, hb, hr, hts, hown, hlocks, hml⟩ := I
  have hown : s.vm.findClass RX7 = some m.cls := hown
  have hl : lv_has ls 3 [(0, .ref h0), (1, .int (nI w)), (2, .ref q)] := hl
  refine lv_iload_n hx hb dX7_keepSlip_0 rfl (lv_at hl 1 rfl) ?_
  refine lv_if_lt (tgt := 20) hx hb dX7_keepSlip_1 (by decide) (fun c_1 => ?_) (fun c_1 => ?_)
  · exact absurd c_1 (nI_pos (by omega))
  · refine lv_iload_n hx hb dX7_keepSlip_4 rfl (lv_at hl 1 rfl) ?_
    refine lv_aload_n hx hb dX7_keepSlip_5 rfl (lv_at hl 0 rfl) ?_
    refine fw_get hx hb hts hown hE.1.1 hw (ci := 7) (fs := [.ref pv, .ref rv, .int kv, .int cv, .int tv, .int ev, .ref shv, .ref slv]) (v := .ref slv) hf iX7_keepSlip_7 rfl 7 (by decide) rfl (by decide +kernel) dX7_keepSlip_6 ?_
    refine fw_alen hx hb hE.1.1 hw hsl 6 rfl (v := 31) rfl dX7_keepSlip_9 ?_
    refine lv_icmp_ge (tgt := 20) hx hb dX7_keepSlip_10 (by decide) (fun c_2 => ?_) (fun c_2 => ?_)
    · exact absurd c_2 (nI_ge (b := 31) hw31 (by decide))
    · refine lv_aload_n hx hb dX7_keepSlip_13 rfl (lv_at hl 0 rfl) ?_
      refine fw_get hx hb hts hown hE.1.1 hw (ci := 7) (fs := [.ref pv, .ref rv, .int kv, .int cv, .int tv, .int ev, .ref shv, .ref slv]) (v := .ref slv) hf iX7_keepSlip_7 rfl 7 (by decide) rfl (by decide +kernel) dX7_keepSlip_14 ?_
      refine lv_iload_n hx hb dX7_keepSlip_17 rfl (lv_at hl 1 rfl) ?_
      refine lv_aload_n hx hb dX7_keepSlip_18 rfl (lv_at hl 2 rfl) ?_
      refine fw_aast (r := (RX5, TX5, 4)) hx hb hE.1.1 hw (g := S) hsl 6 rfl hq rfl (vp_in_nI (by omega) (by decide)) dX7_keepSlip_19 (fun H locs hw => ?_)
      rw [nI_clamp (n := w) (by omega)] at hw
      obtain ⟨f3, ef3⟩ : ∃ z, z = fw_up f slv (.inl (y 6, 31, .inr (.inr (.inr (.inr (va_up S w (some q))))))) := ⟨_, rfl⟩
      have hw : fw_S D A s.heap f3 H locs := by rw [ef3]; exact hw
      have h4 : f3 h0 = some (.inr (7, [.ref pv, .ref rv, .int kv, .int cv, .int tv, .int ev, .ref shv, .ref slv])) := by rw [ef3]; exact (fw_up_n (fw_ne2 hf hsl (by simp))).trans hf
      have h5 : f3 q = some (.inr (5, [.int g0, .int g1, .int g2, .int g3])) := by rw [ef3]; exact (fw_up_n (fw_ne2 hq hsl (by simp))).trans hq
      have h6 : f3 slv = some (.inl (y 6, 31, .inr (.inr (.inr (.inr (va_up S w (some q))))))) := by rw [ef3]; exact fw_up_s
      exact fw_vret hx hb hr hlocks hw (Nat.le_of_ble_eq_true rfl) (Nat.le_of_ble_eq_true rfl) dX7_keepSlip_20 (by rw [ef3])

theorem iX7_slipPart_7 : ∀ w ∈ wsX70, w ∈ wsX7_slipPart := by decide +kernel
set_option maxHeartbeats 4000000 in
set_option maxRecDepth 100000 in
/-- Worker.slipPart -/
theorem c_X7_slipPart (l : Launch) (D : va_G) (A : Nat → Prop) (y : Nat → ClassId) (sa : Nat → Nat) (f : fw_F) (h0 pv rv shv slv : Nat) (kv cv tv ev : Int32) (w k : Nat) (S : Nat → Option Nat) (cc0 : Nat → Int32) (hw31 : w < 31) (hk4 : k < 4) (hf : f h0 = some (.inr (7, [.ref pv, .ref rv, .int kv, .int cv, .int tv, .int ev, .ref shv, .ref slv]))) (hsl : f slv = some (.inl (y 6, 31, .inr (.inr (.inr (.inr S)))))) (hsp : ∀ q, S w = some q → f q = some (.inr (5, [.int (cc0 0), .int (cc0 1), .int (cc0 2), .int (cc0 3)]))) : Met l yX7_slipPart wsX7_slipPart ({ frames := 1, cells := 0, slots := 0, locals := 21 } : Room) (cPc D A y sa f [.ref h0, .int (nI w), .int (nI k)]) (cQi D A (fun r f1 => r = (if (S w).isSome = true then cc0 k else 0) ∧ f1 = f)) 0 0 A := by
  refine fw_met (by decide) rfl [.ref h0, .int (nI w), .int (nI k)] (Nat.le_of_ble_eq_true rfl) ?_
  intro p e s m args below meth c ls I hin hE hw hl
  obtain ⟨hx, hb, hr, hts, hown, hlocks, hml⟩ := I
  have hown : s.vm.findClass RX7 = some m.cls := hown
  have hl : lv_has ls 4 [(0, .ref h0), (1, .int (nI w)), (2, .int (nI k))] := hl
  refine lv_iload_n hx hb dX7_slipPart_0 rfl (lv_at hl 1 rfl) ?_
  refine lv_if_lt (tgt := 22) hx hb dX7_slipPart_1 (by decide) (fun c_1 => ?_) (fun c_1 => ?_)
  · exact absurd c_1 (nI_pos (by omega))
  · refine lv_iload_n hx hb dX7_slipPart_4 rfl (lv_at hl 1 rfl) ?_
    refine lv_aload_n hx hb dX7_slipPart_5 rfl (lv_at hl 0 rfl) ?_
    refine fw_get hx hb hts hown hE.1.1 hw (ci := 7) (fs := [.ref pv, .ref rv, .int kv, .int cv, .int tv, .int ev, .ref shv, .ref slv]) (v := .ref slv) hf iX7_slipPart_7 rfl 7 (by decide) rfl (by decide +kernel) dX7_slipPart_6 ?_
    refine fw_alen hx hb hE.1.1 hw hsl 6 rfl (v := 31) rfl dX7_slipPart_9 ?_
    refine lv_icmp_ge (tgt := 22) hx hb dX7_slipPart_10 (by decide) (fun c_2 => ?_) (fun c_2 => ?_)
    · exact absurd c_2 (nI_ge (b := 31) hw31 (by decide))
    · refine lv_aload_n hx hb dX7_slipPart_13 rfl (lv_at hl 0 rfl) ?_
      refine fw_get hx hb hts hown hE.1.1 hw (ci := 7) (fs := [.ref pv, .ref rv, .int kv, .int cv, .int tv, .int ev, .ref shv, .ref slv]) (v := .ref slv) hf iX7_slipPart_7 rfl 7 (by decide) rfl (by decide +kernel) dX7_slipPart_14 ?_
      refine lv_iload_n hx hb dX7_slipPart_17 rfl (lv_at hl 1 rfl) ?_
      refine fw_aald hx hb hE.1.1 hw (g := S) hsl 6 rfl (vp_in_nI (by omega) (by decide)) dX7_slipPart_18 ?_
      rw [nI_clamp (n := w) (by omega)]
      cases hSw : S w with
      | none =>
        refine lv_goto (tgt := 23) hx hb dX7_slipPart_19 (by decide) ?_
        refine lv_astore_nN (lv' := [(3, .null), (0, .ref h0), (1, .int (nI w)), (2, .int (nI k))]) hx hb dX7_slipPart_23 rfl hl (by decide) rfl (fun ls hl => ?_)
        refine lv_aload_nN hx hb dX7_slipPart_24 rfl (lv_at hl 0 rfl) ?_
        refine lv_ifnonnullN hx hb dX7_slipPart_25 ?_
        refine lv_iconst (v := 0) hx hb dX7_slipPart_28 (by decide) ?_
        refine lv_goto (tgt := 37) hx hb dX7_slipPart_29 (by decide) ?_
        exact fw_iret hx hb hr hlocks hw (Nat.le_of_ble_eq_true rfl) (Nat.le_of_ble_eq_true rfl) dX7_slipPart_37 (⟨by simp [hSw], rfl⟩)
      | some q =>
        refine lv_goto (tgt := 23) hx hb dX7_slipPart_19 (by decide) ?_
        refine lv_astore_n (lv' := [(3, .ref q), (0, .ref h0), (1, .int (nI w)), (2, .int (nI k))]) hx hb dX7_slipPart_23 rfl hl (by decide) rfl (fun ls hl => ?_)
        refine lv_aload_n hx hb dX7_slipPart_24 rfl (lv_at hl 0 rfl) ?_
        refine lv_ifnonnull (tgt := 32) hx hb dX7_slipPart_25 (by decide) ?_
        refine lv_aload_n hx hb dX7_slipPart_32 rfl (lv_at hl 0 rfl) ?_
        refine lv_iload_n hx hb dX7_slipPart_33 rfl (lv_at hl 3 rfl) ?_
        refine fw_callVi hx hb hml hown hts hE hw [.int (nI k)] [] (c_X5_part l D A y sa f q k cc0 hk4 (hsp q hSw)) (cwV 1 hts gX7_slipPart_X5_part rfl rfl rfl (by decide +kernel) ⟨Nat.le_of_ble_eq_true rfl, Nat.le_of_ble_eq_true rfl⟩) (ci := 5) rfl rfl (hsp q hSw) rfl hl.1 rfl (Nat.le_of_ble_eq_true rfl) dX7_slipPart_34 ⟨Nat.le_of_ble_eq_true rfl, Nat.le_of_ble_eq_true rfl⟩ (fun r3 f4 H locs hp5 hw => ?_)
        obtain ⟨hp5a, hp5b⟩ := hp5
        rw [hp5b] at hw
        rw [hp5a]
        exact fw_iret hx hb hr hlocks hw (Nat.le_of_ble_eq_true rfl) (Nat.le_of_ble_eq_true rfl) dX7_slipPart_37 (⟨by simp [hSw], rfl⟩)
end
section
theorem iX7_take_7 : ∀ w ∈ wsX70, w ∈ wsX7_take := by decide +kernel
set_option maxHeartbeats 4000000 in
set_option maxRecDepth 100000 in
/-- Worker.take -/
theorem c_X7_take (l : Launch) (D : va_G) (A : Nat → Prop) (y : Nat → ClassId) (sa : Nat → Nat) (f : fw_F) (h0 pv rv shv slv : Nat) (cv tv ev : Int32) (j k q : Nat) (g0 g1 g2 : Int32) (S : Nat → Option Nat) (hj20 : j < 20) (hk20 : k ≤ 20) (hf : f h0 = some (.inr (7, [.ref pv, .ref rv, .int (nI k), .int cv, .int tv, .int ev, .ref shv, .ref slv]))) (hsh : f shv = some (.inl (y 5, 20, .inr (.inr (.inr (.inr S)))))) (hq : f q = some (.inr (4, [.int g0, .int g1, .int g2]))) : Met l yX7_take wsX7_take ({ frames := 1, cells := 0, slots := 0, locals := 21 } : Room) (cPc D A y sa f [.ref h0, .int (nI j), .ref q]) (cQv D A (fun f1 => f1 = fw_up (fw_up f shv (.inl (y 5, 20, .inr (.inr (.inr (.inr (va_up S j (some q)))))))) h0 (.inr (7, [.ref pv, .ref rv, .int (nI (cntU (va_up S j (some q)) (20 - k) k)), .int cv, .int tv, .int ev, .ref shv, .ref slv])))) 0 0 A := by
  refine fw_met (by decide) rfl [.ref h0, .int (nI j), .ref q] (Nat.le_of_ble_eq_true rfl) ?_
  intro p e s m args below meth c ls I hin hE hw hl
  obtain ⟨hx, hb, hr, hts, hown, hlocks, hml⟩ := I
  have hown : s.vm.findClass RX7 = some m.cls := hown
  have hl : lv_has ls 3 [(0, .ref h0), (1, .int (nI j)), (2, .ref q)] := hl
  refine lv_iload_n hx hb dX7_take_0 rfl (lv_at hl 1 rfl) ?_
  refine lv_if_lt (tgt := 20) hx hb dX7_take_1 (by decide) (fun c_1 => ?_) (fun c_1 => ?_)
  · exact absurd c_1 (nI_pos (by omega))
  · refine lv_iload_n hx hb dX7_take_4 rfl (lv_at hl 1 rfl) ?_
    refine lv_aload_n hx hb dX7_take_5 rfl (lv_at hl 0 rfl) ?_
    refine fw_get hx hb hts hown hE.1.1 hw (ci := 7) (fs := [.ref pv, .ref rv, .int (nI k), .int cv, .int tv, .int ev, .ref shv, .ref slv]) (v := .ref shv) hf iX7_take_7 rfl 6 (by decide) rfl (by decide +kernel) dX7_take_6 ?_
    refine fw_alen hx hb hE.1.1 hw hsh 5 rfl (v := 20) rfl dX7_take_9 ?_
    refine lv_icmp_ge (tgt := 20) hx hb dX7_take_10 (by decide) (fun c_2 => ?_) (fun c_2 => ?_)
    · exact absurd c_2 (nI_ge (b := 20) hj20 (by decide))
    · refine lv_aload_n hx hb dX7_take_13 rfl (lv_at hl 0 rfl) ?_
      refine fw_get hx hb hts hown hE.1.1 hw (ci := 7) (fs := [.ref pv, .ref rv, .int (nI k), .int cv, .int tv, .int ev, .ref shv, .ref slv]) (v := .ref shv) hf iX7_take_7 rfl 6 (by decide) rfl (by decide +kernel) dX7_take_14 ?_
      refine lv_iload_n hx hb dX7_take_17 rfl (lv_at hl 1 rfl) ?_
      refine lv_aload_n hx hb dX7_take_18 rfl (lv_at hl 2 rfl) ?_
      refine fw_aast (r := (RX4, TX4, 3)) hx hb hE.1.1 hw (g := S) hsh 5 rfl hq rfl (vp_in_nI (by omega) (by decide)) dX7_take_19 (fun H locs hw => ?_)
      rw [nI_clamp (n := j) (by omega)] at hw
      obtain ⟨f3, ef3⟩ : ∃ z, z = fw_up f shv (.inl (y 5, 20, .inr (.inr (.inr (.inr (va_up S j (some q))))))) := ⟨_, rfl⟩
      have hw : fw_S D A s.heap f3 H locs := by rw [ef3]; exact hw
      have h4 : f3 h0 = some (.inr (7, [.ref pv, .ref rv, .int (nI k), .int cv, .int tv, .int ev, .ref shv, .ref slv])) := by rw [ef3]; exact (fw_up_n (fw_ne2 hf hsh (by simp))).trans hf
      have h5 : f3 q = some (.inr (4, [.int g0, .int g1, .int g2])) := by rw [ef3]; exact (fw_up_n (fw_ne2 hq hsh (by simp))).trans hq
      have h6 : f3 shv = some (.inl (y 5, 20, .inr (.inr (.inr (.inr (va_up S j (some q))))))) := by rw [ef3]; exact fw_up_s
      rw [ef3] at hw
      rw [← fw_up_id (f := fw_up f shv (.inl (y 5, 20, .inr (.inr (.inr (.inr (va_up S j (some q)))))))) (a := h0) ((fw_up_n (fw_ne2 hf hsh (by simp))).trans hf)] at hw
      refine fw_loop 20 3 (fun r : Nat => 20 - r) (fun r => r ≤ 20 ∧ cntU (va_up S j (some q)) (20 - r) r = cntU (va_up S j (some q)) (20 - k) k) (fun r => fw_up (fw_up f shv (.inl (y 5, 20, .inr (.inr (.inr (.inr (va_up S j (some q)))))))) h0 (.inr (7, [.ref pv, .ref rv, .int (nI r), .int cv, .int tv, .int ev, .ref shv, .ref slv]))) (fun r => [(0, .ref h0), (1, .int (nI j)), (2, .ref q)]) (fun r => []) (fun r => 0) (fun r => 0) (fun i H locs ls hP hw hl IH => ?_) k H locs ls ⟨hk20, rfl⟩ hw (lv_sub hl [0, 1, 2] rfl)
      obtain ⟨hP1, hP2⟩ := hP
      skip
      try dsimp only at hw
      try dsimp only at hl
      try dsimp only at IH
      try dsimp only at ⊢
      obtain ⟨fa, efa⟩ : ∃ z, z = fw_up (fw_up f shv (.inl (y 5, 20, .inr (.inr (.inr (.inr (va_up S j (some q)))))))) h0 (.inr (7, [.ref pv, .ref rv, .int (nI i), .int cv, .int tv, .int ev, .ref shv, .ref slv])) := ⟨_, rfl⟩
      rw [← efa] at hw
      have hfa : fa h0 = some (.inr (7, [.ref pv, .ref rv, .int (nI i), .int cv, .int tv, .int ev, .ref shv, .ref slv])) := by rw [efa]; exact fw_up_s
      have hsa : fa shv = some (.inl (y 5, 20, .inr (.inr (.inr (.inr (va_up S j (some q))))))) := by rw [efa, fw_up_n (Ne.symm (fw_ne2 hf hsh (by simp)))]; exact fw_up_s
      refine lv_aload_n hx hb dX7_take_20 rfl (lv_at hl 0 rfl) ?_
      refine fw_get hx hb hts hown hE.1.1 hw (ci := 7) (fs := [.ref pv, .ref rv, .int (nI i), .int cv, .int tv, .int ev, .ref shv, .ref slv]) (v := .int (nI i)) hfa iX7_take_7 rfl 2 (by decide) rfl (by decide +kernel) dX7_take_21 ?_
      refine lv_aload_n hx hb dX7_take_24 rfl (lv_at hl 0 rfl) ?_
      refine fw_get hx hb hts hown hE.1.1 hw (ci := 7) (fs := [.ref pv, .ref rv, .int (nI i), .int cv, .int tv, .int ev, .ref shv, .ref slv]) (v := .ref shv) hfa iX7_take_7 rfl 6 (by decide) rfl (by decide +kernel) dX7_take_25 ?_
      refine fw_alen hx hb hE.1.1 hw hsa 5 rfl (v := 20) rfl dX7_take_28 ?_
      refine lv_icmp_ge (tgt := 56) hx hb dX7_take_29 (by decide) (fun c_7 => ?_) (fun c_7 => ?_)
      · exact fw_vret hx hb hr hlocks hw (Nat.le_of_ble_eq_true rfl) (Nat.le_of_ble_eq_true rfl) dX7_take_56 (by obtain rfl := nI_eqn (n := 20) c_7 hP1 (by decide); rw [efa, ← hP2]; rfl)
      · have hi20 : i < 20 := nI_hi (n := 20) c_7 (by omega)
        refine lv_aload_n hx hb dX7_take_32 rfl (lv_at hl 0 rfl) ?_
        refine lv_aload_n hx hb dX7_take_33 rfl (lv_at hl 0 rfl) ?_
        refine fw_get hx hb hts hown hE.1.1 hw (ci := 7) (fs := [.ref pv, .ref rv, .int (nI i), .int cv, .int tv, .int ev, .ref shv, .ref slv]) (v := .int (nI i)) hfa iX7_take_7 rfl 2 (by decide) rfl (by decide +kernel) dX7_take_34 ?_
        refine fw_callVq hx hb hml hown hts hE hw [.int (nI i)] [] (c_X7_sheet l D A y sa fa h0 pv rv shv slv (nI i) cv tv ev (nI i) (va_up S j (some q)) hfa hsa) (cwV 1 hts gX7_take_X7_sheet rfl rfl rfl (by decide +kernel) ⟨Nat.le_of_ble_eq_true rfl, Nat.le_of_ble_eq_true rfl⟩) (ci := 7) rfl rfl hfa rfl hl.1 rfl (Nat.le_of_ble_eq_true rfl) dX7_take_37 ⟨Nat.le_of_ble_eq_true rfl, Nat.le_of_ble_eq_true rfl⟩ (fun r8 f9 H locs hp10 hw => ?_)
        obtain ⟨hp10a, hp10b⟩ := hp10
        rw [hp10b] at hw
        rw [if_pos ⟨nI_pos' (by omega), nI_lt (b := 20) hi20 (by decide)⟩, nI_clamp (n := i) (by omega)] at hp10a
        rw [hp10a]
        cases hSi : (va_up S j (some q)) i with
        | none =>
          refine lv_ifnullN (tgt := 56) hx hb dX7_take_40 (by decide) ?_
          exact fw_vret hx hb hr hlocks hw (Nat.le_of_ble_eq_true rfl) (Nat.le_of_ble_eq_true rfl) dX7_take_56 (by rw [efa, ← hP2, show 20 - i = (20 - (i + 1)) + 1 by omega, cntU, hSi]; rfl)
        | some qq =>
          refine lv_ifnull hx hb dX7_take_40 ?_
          refine lv_aload_n hx hb dX7_take_43 rfl (lv_at hl 0 rfl) ?_
          refine lv_dup hx hb dX7_take_44 rfl ?_
          refine fw_get hx hb hts hown hE.1.1 hw (ci := 7) (fs := [.ref pv, .ref rv, .int (nI i), .int cv, .int tv, .int ev, .ref shv, .ref slv]) (v := .int (nI i)) hfa iX7_take_7 rfl 2 (by decide) rfl (by decide +kernel) dX7_take_45 ?_
          refine lv_iconst (v := 1) hx hb dX7_take_48 (by decide) ?_
          refine lv_iadd hx hb dX7_take_49 ?_
          refine fw_put hx hb hts hown hE.1.1 hw (ci := 7) (fs := [.ref pv, .ref rv, .int (nI i), .int cv, .int tv, .int ev, .ref shv, .ref slv]) (v := .int ((nI i) + 1)) hfa iX7_take_7 tyX7 tyX7_ok nmX7 rfl 2 (by decide) rfl rfl rfl (Nat.le_of_ble_eq_true rfl) (by decide +kernel) dX7_take_50 (fun H locs hw => ?_)
          obtain ⟨f11, ef11⟩ : ∃ z, z = fw_up fa h0 (.inr (7, [.ref pv, .ref rv, .int ((nI i) + 1), .int cv, .int tv, .int ev, .ref shv, .ref slv])) := ⟨_, rfl⟩
          have hw : fw_S D A s.heap f11 H locs := by rw [ef11]; exact hw
          have h12 : f11 shv = some (.inl (y 5, 20, .inr (.inr (.inr (.inr (va_up S j (some q))))))) := by rw [ef11]; exact (fw_up_n (Ne.symm (fw_ne2 hf hsh (by simp)))).trans hsa
          have h13 : f11 h0 = some (.inr (7, [.ref pv, .ref rv, .int ((nI i) + 1), .int cv, .int tv, .int ev, .ref shv, .ref slv])) := by rw [ef11]; exact fw_up_s
          refine lv_goto (tgt := 20) hx hb dX7_take_53 (by decide) ?_
          exact IH (i + 1) _ _ _ (by omega) ⟨by omega, by rw [← hP2, show 20 - i = (20 - (i + 1)) + 1 by omega]; exact (if_pos (by rw [hSi]; rfl)).symm⟩ (by rw [ef11, efa, fw_up_up] at hw; rw [← nI_1]; exact hw) (lv_sub hl [0, 1, 2] rfl)

theorem iX2_init_2 : ∀ w ∈ wsX20, w ∈ wsX2_init := by decide +kernel
theorem iX2_init_3 : ∀ w ∈ wsX30, w ∈ wsX2_init := by decide +kernel
set_option maxHeartbeats 4000000 in
set_option maxRecDepth 100000 in
/-- Rates() -/
theorem c_X2_init (l : Launch) (D : va_G) (A : Nat → Prop) (y : Nat → ClassId) (sa : Nat → Nat) (f : fw_F) (h0 : Nat) (hf : f h0 = some (.inr (2, [.null, .null]))) : Met l yX2_init wsX2_init ({ frames := 2, cells := 6, slots := 128, locals := 44 } : Room) (cPc D A y sa f [.ref h0]) (cQv D A (fun f1 => ∃ q v t q2 v2 t2 : Nat, f q = none ∧ f v = none ∧ f t = none ∧ f q2 = none ∧ f v2 = none ∧ f t2 = none ∧ [q, v, t, q2, v2, t2].Nodup ∧ f1 h0 = some (.inr (2, [.ref q, .ref q2])) ∧ f1 q = some (.inr (3, [.ref v, .ref t])) ∧ f1 v = some (.inl (y 0, 31, .inl (fillv 1000 31))) ∧ f1 t = some (.inl (y 1, 31, .inl (fun _ => 0))) ∧ f1 q2 = some (.inr (3, [.ref v2, .ref t2])) ∧ f1 v2 = some (.inl (y 0, 31, .inl (fillv 1500 31))) ∧ f1 t2 = some (.inl (y 1, 31, .inl (fun _ => 0))) ∧ ∀ b, b ≠ h0 → b ≠ q → b ≠ v → b ≠ t → b ≠ q2 → b ≠ v2 → b ≠ t2 → f1 b = f b)) 6 128 A := by
  refine fw_met (by decide) rfl [.ref h0] (Nat.le_of_ble_eq_true rfl) ?_
  intro p e s m args below meth c ls I hin hE hw hl
  obtain ⟨hx, hb, hr, hts, hown, hlocks, hml⟩ := I
  have hown : s.vm.findClass RX2 = some m.cls := hown
  have hl : lv_has ls 1 [(0, .ref h0)] := hl
  refine lv_aload_n hx hb dX2_init_0 rfl (lv_at hl 0 rfl) ?_
  refine W.objInit hx hb hown (hts (.methodLink RX2 3 objectInit) (by decide +kernel)) (hts (.instanceMethod objectInit) (by decide +kernel)) (hts (.code objectInit ⟨#[0xb1]⟩ 1 none) (by decide +kernel)) rfl (by rw [hml]; exact hl.1) rfl dX2_init_1 (Nat.le_of_ble_eq_true rfl) (Nat.le_of_ble_eq_true rfl) ?_
  refine W.eq (g2 := F0 m 4 ls []) rfl ?_
  refine lv_aload_n hx hb dX2_init_4 rfl (lv_at hl 0 rfl) ?_
  refine fw_new hx hb hts hown hE.1.1 hw hE.2.1 (ci := 3) (C := RX3) (T := TX3) (N := 2) (fs := [.null, .null]) iX2_init_3 tyX3 tyX3_ok (by decide +kernel) (by decide +kernel) (by decide +kernel) rfl (fun j hj => by rcases (show j = 0 ∨ j = 1 by omega) with rfl | rfl <;> rfl) (Nat.le_of_ble_eq_true rfl) (Nat.le_of_ble_eq_true rfl) dX2_init_5 (fun q1 H hnq1 hw => ?_)
  have hbq1 : f q1 = none := hnq1
  have n2 : h0 ≠ q1 := fun z => absurd (hf.symm.trans ((congrArg f z).trans hnq1)) (by simp)
  obtain ⟨f3, ef3⟩ : ∃ z, z = fw_up f q1 (.inr (3, [.null, .null])) := ⟨_, rfl⟩
  have hw : fw_S D A s.heap f3 H [] := by rw [ef3]; exact hw
  have h4 : f3 h0 = some (.inr (2, [.null, .null])) := by rw [ef3]; exact (fw_up_n n2).trans hf
  have h5 : f3 q1 = some (.inr (3, [.null, .null])) := by rw [ef3]; exact fw_up_s
  refine lv_dup hx hb dX2_init_8 rfl ?_
  refine lv_sipush (v := 1000) hx hb dX2_init_9 (by decide) ?_
  refine fw_callIv hx hb hml hown hts hE hw [.int 1000] [.ref q1, .ref h0] (c_X3_init l D A y sa f3 q1 1000 h5) (cwI 1 hts gX2_init_X3_init rfl rfl rfl (hts (.initialized RX3) (by decide +kernel)) (hts (.methodLink RX2 11 yX3_init) (by decide +kernel)) (hts (.instanceMethod yX3_init) (by decide +kernel)) rfl (by decide +kernel) ⟨Nat.le_of_ble_eq_true rfl, Nat.le_of_ble_eq_true rfl⟩) rfl hl.1 rfl (Nat.le_of_ble_eq_true rfl) dX2_init_12 ⟨Nat.le_of_ble_eq_true rfl, Nat.le_of_ble_eq_true rfl⟩ (fun f7 H locs hp8 hw => ?_)
  obtain ⟨v9, t10, hnv9, hnt10, hdv9, ef7⟩ := hp8
  have hbv9 : f v9 = none := by have z9 := hnv9; rw [ef3] at z9; exact (fw_up_o z9)
  have n11 : h0 ≠ v9 := fw_ne h4 hnv9
  have n12 : q1 ≠ v9 := fw_ne h5 hnv9
  have hbt10 : f t10 = none := by have z9 := hnt10; rw [ef3] at z9; exact (fw_up_o z9)
  have n13 : h0 ≠ t10 := fw_ne h4 hnt10
  have n14 : q1 ≠ t10 := fw_ne h5 hnt10
  have h15 : f7 h0 = some (.inr (2, [.null, .null])) := by rw [ef7, fw_up_n n2, fw_up_n n13, fw_up_n n11]; exact h4
  have h16 : f7 v9 = some (.inl (y 0, 31, .inl (fillv 1000 31))) := by rw [ef7, fw_up_n (Ne.symm n12), fw_up_n hdv9]; exact fw_up_s
  have h17 : f7 t10 = some (.inl (y 1, 31, .inl (fun _ => (0 : Int32)))) := by rw [ef7, fw_up_n (Ne.symm n14)]; exact fw_up_s
  have h18 : f7 q1 = some (.inr (3, [.ref v9, .ref t10])) := by rw [ef7]; exact fw_up_s
  refine fw_putF hx hb hts hown hE.1.1 hw (ci := 2) (fs := [.null, .null]) (v := .ref q1) h15 iX2_init_2 tyX2 tyX2_ok nmX2 rfl 0 (by decide) rfl (hin rfl) rfl rfl rfl (Nat.le_of_ble_eq_true rfl) (by decide +kernel) dX2_init_15 (fun H locs hw => ?_)
  obtain ⟨f19, ef19⟩ : ∃ z, z = fw_up f7 h0 (.inr (2, [.ref q1, .null])) := ⟨_, rfl⟩
  have hw : fw_S D A s.heap f19 H locs := by rw [ef19]; exact hw
  have h20 : f19 v9 = some (.inl (y 0, 31, .inl (fillv 1000 31))) := by rw [ef19]; exact (fw_up_n (Ne.symm n11)).trans h16
  have h21 : f19 t10 = some (.inl (y 1, 31, .inl (fun _ => (0 : Int32)))) := by rw [ef19]; exact (fw_up_n (Ne.symm n13)).trans h17
  have h22 : f19 q1 = some (.inr (3, [.ref v9, .ref t10])) := by rw [ef19]; exact (fw_up_n (Ne.symm n2)).trans h18
  have h23 : f19 h0 = some (.inr (2, [.ref q1, .null])) := by rw [ef19]; exact fw_up_s
  refine lv_aload_n hx hb dX2_init_18 rfl (lv_at hl 0 rfl) ?_
  refine fw_new hx hb hts hown hE.1.1 hw hE.2.1 (ci := 3) (C := RX3) (T := TX3) (N := 2) (fs := [.null, .null]) iX2_init_3 tyX3 tyX3_ok (by decide +kernel) (by decide +kernel) (by decide +kernel) rfl (fun j hj => by rcases (show j = 0 ∨ j = 1 by omega) with rfl | rfl <;> rfl) (Nat.le_of_ble_eq_true rfl) (Nat.le_of_ble_eq_true rfl) dX2_init_19 (fun q24 H hnq24 hw => ?_)
  have hbq24 : f q24 = none := by have z9 := hnq24; rw [ef19, ef7, ef3] at z9; exact (fw_up_o (fw_up_o (fw_up_o (fw_up_o (fw_up_o z9)))))
  have n25 : v9 ≠ q24 := fun z => absurd (h20.symm.trans ((congrArg f19 z).trans hnq24)) (by simp)
  have n26 : t10 ≠ q24 := fun z => absurd (h21.symm.trans ((congrArg f19 z).trans hnq24)) (by simp)
  have n27 : q1 ≠ q24 := fun z => absurd (h22.symm.trans ((congrArg f19 z).trans hnq24)) (by simp)
  have n28 : h0 ≠ q24 := fun z => absurd (h23.symm.trans ((congrArg f19 z).trans hnq24)) (by simp)
  obtain ⟨f29, ef29⟩ : ∃ z, z = fw_up f19 q24 (.inr (3, [.null, .null])) := ⟨_, rfl⟩
  have hw : fw_S D A s.heap f29 H locs := by rw [ef29]; exact hw
  have h30 : f29 v9 = some (.inl (y 0, 31, .inl (fillv 1000 31))) := by rw [ef29]; exact (fw_up_n n25).trans h20
  have h31 : f29 t10 = some (.inl (y 1, 31, .inl (fun _ => (0 : Int32)))) := by rw [ef29]; exact (fw_up_n n26).trans h21
  have h32 : f29 q1 = some (.inr (3, [.ref v9, .ref t10])) := by rw [ef29]; exact (fw_up_n n27).trans h22
  have h33 : f29 h0 = some (.inr (2, [.ref q1, .null])) := by rw [ef29]; exact (fw_up_n n28).trans h23
  have h34 : f29 q24 = some (.inr (3, [.null, .null])) := by rw [ef29]; exact fw_up_s
  refine lv_dup hx hb dX2_init_22 rfl ?_
  refine lv_sipush (v := 1500) hx hb dX2_init_23 (by decide) ?_
  refine fw_callIv hx hb hml hown hts hE hw [.int 1500] [.ref q24, .ref h0] (c_X3_init l D A y sa f29 q24 1500 h34) (cwI 1 hts gX2_init_X3_init rfl rfl rfl (hts (.initialized RX3) (by decide +kernel)) (hts (.methodLink RX2 11 yX3_init) (by decide +kernel)) (hts (.instanceMethod yX3_init) (by decide +kernel)) rfl (by decide +kernel) ⟨Nat.le_of_ble_eq_true rfl, Nat.le_of_ble_eq_true rfl⟩) rfl hl.1 rfl (Nat.le_of_ble_eq_true rfl) dX2_init_26 ⟨Nat.le_of_ble_eq_true rfl, Nat.le_of_ble_eq_true rfl⟩ (fun f36 H locs hp37 hw => ?_)
  obtain ⟨v38, t39, hnv38, hnt39, hdv38, ef36⟩ := hp37
  have hbv38 : f v38 = none := by have z9 := hnv38; rw [ef29, ef19, ef7, ef3] at z9; exact (fw_up_o (fw_up_o (fw_up_o (fw_up_o (fw_up_o (fw_up_o z9))))))
  have n40 : v9 ≠ v38 := fw_ne h30 hnv38
  have n41 : t10 ≠ v38 := fw_ne h31 hnv38
  have n42 : q1 ≠ v38 := fw_ne h32 hnv38
  have n43 : h0 ≠ v38 := fw_ne h33 hnv38
  have n44 : q24 ≠ v38 := fw_ne h34 hnv38
  have hbt39 : f t39 = none := by have z9 := hnt39; rw [ef29, ef19, ef7, ef3] at z9; exact (fw_up_o (fw_up_o (fw_up_o (fw_up_o (fw_up_o (fw_up_o z9))))))
  have n45 : v9 ≠ t39 := fw_ne h30 hnt39
  have n46 : t10 ≠ t39 := fw_ne h31 hnt39
  have n47 : q1 ≠ t39 := fw_ne h32 hnt39
  have n48 : h0 ≠ t39 := fw_ne h33 hnt39
  have n49 : q24 ≠ t39 := fw_ne h34 hnt39
  have h50 : f36 v9 = some (.inl (y 0, 31, .inl (fillv 1000 31))) := by rw [ef36, fw_up_n n25, fw_up_n n45, fw_up_n n40]; exact h30
  have h51 : f36 t10 = some (.inl (y 1, 31, .inl (fun _ => (0 : Int32)))) := by rw [ef36, fw_up_n n26, fw_up_n n46, fw_up_n n41]; exact h31
  have h52 : f36 q1 = some (.inr (3, [.ref v9, .ref t10])) := by rw [ef36, fw_up_n n27, fw_up_n n47, fw_up_n n42]; exact h32
  have h53 : f36 h0 = some (.inr (2, [.ref q1, .null])) := by rw [ef36, fw_up_n n28, fw_up_n n48, fw_up_n n43]; exact h33
  have h54 : f36 v38 = some (.inl (y 0, 31, .inl (fillv 1500 31))) := by rw [ef36, fw_up_n (Ne.symm n44), fw_up_n hdv38]; exact fw_up_s
  have h55 : f36 t39 = some (.inl (y 1, 31, .inl (fun _ => (0 : Int32)))) := by rw [ef36, fw_up_n (Ne.symm n49)]; exact fw_up_s
  have h56 : f36 q24 = some (.inr (3, [.ref v38, .ref t39])) := by rw [ef36]; exact fw_up_s
  refine fw_putF hx hb hts hown hE.1.1 hw (ci := 2) (fs := [.ref q1, .null]) (v := .ref q24) h53 iX2_init_2 tyX2 tyX2_ok nmX2 rfl 1 (by decide) rfl (hin rfl) rfl rfl rfl (Nat.le_of_ble_eq_true rfl) (by decide +kernel) dX2_init_29 (fun H locs hw => ?_)
  obtain ⟨f57, ef57⟩ : ∃ z, z = fw_up f36 h0 (.inr (2, [.ref q1, .ref q24])) := ⟨_, rfl⟩
  have hw : fw_S D A s.heap f57 H locs := by rw [ef57]; exact hw
  have h58 : f57 v9 = some (.inl (y 0, 31, .inl (fillv 1000 31))) := by rw [ef57]; exact (fw_up_n (Ne.symm n11)).trans h50
  have h59 : f57 t10 = some (.inl (y 1, 31, .inl (fun _ => (0 : Int32)))) := by rw [ef57]; exact (fw_up_n (Ne.symm n13)).trans h51
  have h60 : f57 q1 = some (.inr (3, [.ref v9, .ref t10])) := by rw [ef57]; exact (fw_up_n (Ne.symm n2)).trans h52
  have h61 : f57 v38 = some (.inl (y 0, 31, .inl (fillv 1500 31))) := by rw [ef57]; exact (fw_up_n (Ne.symm n43)).trans h54
  have h62 : f57 t39 = some (.inl (y 1, 31, .inl (fun _ => (0 : Int32)))) := by rw [ef57]; exact (fw_up_n (Ne.symm n48)).trans h55
  have h63 : f57 q24 = some (.inr (3, [.ref v38, .ref t39])) := by rw [ef57]; exact (fw_up_n (Ne.symm n28)).trans h56
  have h64 : f57 h0 = some (.inr (2, [.ref q1, .ref q24])) := by rw [ef57]; exact fw_up_s
  exact fw_vret hx hb hr hlocks hw (Nat.le_of_ble_eq_true rfl) (Nat.le_of_ble_eq_true rfl) dX2_init_32 (⟨q1, v9, t10, q24, v38, t39, hbq1, hbv9, hbt10, hbq24, hbv38, hbt39, by simp [Ne.symm hdv38, Ne.symm hdv9, Ne.symm n12, Ne.symm n14, Ne.symm n25, Ne.symm n26, Ne.symm n27, Ne.symm n40, Ne.symm n41, Ne.symm n42, Ne.symm n44, Ne.symm n45, Ne.symm n46, Ne.symm n47, Ne.symm n49, hdv38, hdv9, n12, n14, n25, n26, n27, n40, n41, n42, n44, n45, n46, n47, n49], h64, h60, h58, h59, h63, h61, h62, fun b z0 z1 z2 z3 z4 z5 z6 => by rw [ef57, fw_up_n z0, ef36, fw_up_n z4, fw_up_n z6, fw_up_n z5, ef29, fw_up_n z4, ef19, fw_up_n z0, ef7, fw_up_n z1, fw_up_n z3, fw_up_n z2, ef3, fw_up_n z1]⟩)

theorem iX7_init_3 : ∀ w ∈ wsX30, w ∈ wsX7_init := by decide +kernel
theorem iX7_init_7 : ∀ w ∈ wsX70, w ∈ wsX7_init := by decide +kernel
set_option maxHeartbeats 4000000 in
set_option maxRecDepth 100000 in
/-- Worker(pot) -/
theorem c_X7_init (l : Launch) (D : va_G) (A : Nat → Prop) (y : Nat → ClassId) (sa : Nat → Nat) (f : fw_F) (h0 pv : Nat) (hf : f h0 = some (.inr (7, [.null, .null, .int 0, .int 0, .int 0, .int 0, .null, .null]))) : Met l yX7_init wsX7_init ({ frames := 2, cells := 5, slots := 117, locals := 44 } : Room) (cPc D A y sa f [.ref h0, .ref pv]) (cQv D A (fun f1 => ∃ q v t sh sl : Nat, f q = none ∧ f v = none ∧ f t = none ∧ f sh = none ∧ f sl = none ∧ [q, v, t, sh, sl].Nodup ∧ f1 h0 = some (.inr (7, [.ref pv, .ref q, .int 0, .int 0, .int 0, .int 0, .ref sh, .ref sl])) ∧ f1 q = some (.inr (3, [.ref v, .ref t])) ∧ f1 v = some (.inl (y 0, 31, .inl (fillv 0 31))) ∧ f1 t = some (.inl (y 1, 31, .inl (fun _ => 0))) ∧ f1 sh = some (.inl (y 5, 20, .inr (.inr (.inr (.inr (fun _ => none)))))) ∧ f1 sl = some (.inl (y 6, 31, .inr (.inr (.inr (.inr (fun _ => none)))))) ∧ ∀ b, b ≠ h0 → b ≠ q → b ≠ v → b ≠ t → b ≠ sh → b ≠ sl → f1 b = f b)) 5 117 A := by
  refine fw_met (by decide) rfl [.ref h0, .ref pv] (Nat.le_of_ble_eq_true rfl) ?_
  intro p e s m args below meth c ls I hin hE hw hl
  obtain ⟨hx, hb, hr, hts, hown, hlocks, hml⟩ := I
  have hown : s.vm.findClass RX7 = some m.cls := hown
  have hl : lv_has ls 2 [(0, .ref h0), (1, .ref pv)] := hl
  refine lv_aload_n hx hb dX7_init_0 rfl (lv_at hl 0 rfl) ?_
  refine W.objInit hx hb hown (hts (.methodLink RX7 3 objectInit) (by decide +kernel)) (hts (.instanceMethod objectInit) (by decide +kernel)) (hts (.code objectInit ⟨#[0xb1]⟩ 1 none) (by decide +kernel)) rfl (by rw [hml]; exact hl.1) rfl dX7_init_1 (Nat.le_of_ble_eq_true rfl) (Nat.le_of_ble_eq_true rfl) ?_
  refine W.eq (g2 := F0 m 4 ls []) rfl ?_
  refine lv_aload_n hx hb dX7_init_4 rfl (lv_at hl 0 rfl) ?_
  refine fw_new hx hb hts hown hE.1.1 hw hE.2.1 (ci := 3) (C := RX3) (T := TX3) (N := 2) (fs := [.null, .null]) iX7_init_3 tyX3 tyX3_ok (by decide +kernel) (by decide +kernel) (by decide +kernel) rfl (fun j hj => by rcases (show j = 0 ∨ j = 1 by omega) with rfl | rfl <;> rfl) (Nat.le_of_ble_eq_true rfl) (Nat.le_of_ble_eq_true rfl) dX7_init_5 (fun q1 H hnq1 hw => ?_)
  have hbq1 : f q1 = none := hnq1
  have n2 : h0 ≠ q1 := fun z => absurd (hf.symm.trans ((congrArg f z).trans hnq1)) (by simp)
  obtain ⟨f3, ef3⟩ : ∃ z, z = fw_up f q1 (.inr (3, [.null, .null])) := ⟨_, rfl⟩
  have hw : fw_S D A s.heap f3 H [] := by rw [ef3]; exact hw
  have h4 : f3 h0 = some (.inr (7, [.null, .null, .int 0, .int 0, .int 0, .int 0, .null, .null])) := by rw [ef3]; exact (fw_up_n n2).trans hf
  have h5 : f3 q1 = some (.inr (3, [.null, .null])) := by rw [ef3]; exact fw_up_s
  refine lv_dup hx hb dX7_init_8 rfl ?_
  refine lv_iconst (v := 0) hx hb dX7_init_9 (by decide) ?_
  refine fw_callIv hx hb hml hown hts hE hw [.int 0] [.ref q1, .ref h0] (c_X3_init l D A y sa f3 q1 0 h5) (cwI 1 hts gX7_init_X3_init rfl rfl rfl (hts (.initialized RX3) (by decide +kernel)) (hts (.methodLink RX7 11 yX3_init) (by decide +kernel)) (hts (.instanceMethod yX3_init) (by decide +kernel)) rfl (by decide +kernel) ⟨Nat.le_of_ble_eq_true rfl, Nat.le_of_ble_eq_true rfl⟩) rfl hl.1 rfl (Nat.le_of_ble_eq_true rfl) dX7_init_10 ⟨Nat.le_of_ble_eq_true rfl, Nat.le_of_ble_eq_true rfl⟩ (fun f7 H locs hp8 hw => ?_)
  obtain ⟨v9, t10, hnv9, hnt10, hdv9, ef7⟩ := hp8
  have hbv9 : f v9 = none := by have z9 := hnv9; rw [ef3] at z9; exact (fw_up_o z9)
  have n11 : h0 ≠ v9 := fw_ne h4 hnv9
  have n12 : q1 ≠ v9 := fw_ne h5 hnv9
  have hbt10 : f t10 = none := by have z9 := hnt10; rw [ef3] at z9; exact (fw_up_o z9)
  have n13 : h0 ≠ t10 := fw_ne h4 hnt10
  have n14 : q1 ≠ t10 := fw_ne h5 hnt10
  have h15 : f7 h0 = some (.inr (7, [.null, .null, .int 0, .int 0, .int 0, .int 0, .null, .null])) := by rw [ef7, fw_up_n n2, fw_up_n n13, fw_up_n n11]; exact h4
  have h16 : f7 v9 = some (.inl (y 0, 31, .inl (fillv 0 31))) := by rw [ef7, fw_up_n (Ne.symm n12), fw_up_n hdv9]; exact fw_up_s
  have h17 : f7 t10 = some (.inl (y 1, 31, .inl (fun _ => (0 : Int32)))) := by rw [ef7, fw_up_n (Ne.symm n14)]; exact fw_up_s
  have h18 : f7 q1 = some (.inr (3, [.ref v9, .ref t10])) := by rw [ef7]; exact fw_up_s
  refine fw_putF hx hb hts hown hE.1.1 hw (ci := 7) (fs := [.null, .null, .int 0, .int 0, .int 0, .int 0, .null, .null]) (v := .ref q1) h15 iX7_init_7 tyX7 tyX7_ok nmX7 rfl 1 (by decide) rfl (hin rfl) rfl rfl rfl (Nat.le_of_ble_eq_true rfl) (by decide +kernel) dX7_init_13 (fun H locs hw => ?_)
  obtain ⟨f19, ef19⟩ : ∃ z, z = fw_up f7 h0 (.inr (7, [.null, .ref q1, .int 0, .int 0, .int 0, .int 0, .null, .null])) := ⟨_, rfl⟩
  have hw : fw_S D A s.heap f19 H locs := by rw [ef19]; exact hw
  have h20 : f19 v9 = some (.inl (y 0, 31, .inl (fillv 0 31))) := by rw [ef19]; exact (fw_up_n (Ne.symm n11)).trans h16
  have h21 : f19 t10 = some (.inl (y 1, 31, .inl (fun _ => (0 : Int32)))) := by rw [ef19]; exact (fw_up_n (Ne.symm n13)).trans h17
  have h22 : f19 q1 = some (.inr (3, [.ref v9, .ref t10])) := by rw [ef19]; exact (fw_up_n (Ne.symm n2)).trans h18
  have h23 : f19 h0 = some (.inr (7, [.null, .ref q1, .int 0, .int 0, .int 0, .int 0, .null, .null])) := by rw [ef19]; exact fw_up_s
  refine lv_aload_n hx hb dX7_init_16 rfl (lv_at hl 0 rfl) ?_
  refine lv_iconst (v := 0) hx hb dX7_init_17 (by decide) ?_
  refine fw_put hx hb hts hown hE.1.1 hw (ci := 7) (fs := [.null, .ref q1, .int 0, .int 0, .int 0, .int 0, .null, .null]) (v := .int 0) h23 iX7_init_7 tyX7 tyX7_ok nmX7 rfl 2 (by decide) rfl rfl rfl (Nat.le_of_ble_eq_true rfl) (by decide +kernel) dX7_init_18 (fun H locs hw => ?_)
  obtain ⟨f24, ef24⟩ : ∃ z, z = fw_up f19 h0 (.inr (7, [.null, .ref q1, .int 0, .int 0, .int 0, .int 0, .null, .null])) := ⟨_, rfl⟩
  have hw : fw_S D A s.heap f24 H locs := by rw [ef24]; exact hw
  have h25 : f24 v9 = some (.inl (y 0, 31, .inl (fillv 0 31))) := by rw [ef24]; exact (fw_up_n (Ne.symm n11)).trans h20
  have h26 : f24 t10 = some (.inl (y 1, 31, .inl (fun _ => (0 : Int32)))) := by rw [ef24]; exact (fw_up_n (Ne.symm n13)).trans h21
  have h27 : f24 q1 = some (.inr (3, [.ref v9, .ref t10])) := by rw [ef24]; exact (fw_up_n (Ne.symm n2)).trans h22
  have h28 : f24 h0 = some (.inr (7, [.null, .ref q1, .int 0, .int 0, .int 0, .int 0, .null, .null])) := by rw [ef24]; exact fw_up_s
  refine lv_aload_n hx hb dX7_init_21 rfl (lv_at hl 0 rfl) ?_
  refine lv_iconst (v := 0) hx hb dX7_init_22 (by decide) ?_
  refine fw_put hx hb hts hown hE.1.1 hw (ci := 7) (fs := [.null, .ref q1, .int 0, .int 0, .int 0, .int 0, .null, .null]) (v := .int 0) h28 iX7_init_7 tyX7 tyX7_ok nmX7 rfl 3 (by decide) rfl rfl rfl (Nat.le_of_ble_eq_true rfl) (by decide +kernel) dX7_init_23 (fun H locs hw => ?_)
  obtain ⟨f29, ef29⟩ : ∃ z, z = fw_up f24 h0 (.inr (7, [.null, .ref q1, .int 0, .int 0, .int 0, .int 0, .null, .null])) := ⟨_, rfl⟩
  have hw : fw_S D A s.heap f29 H locs := by rw [ef29]; exact hw
  have h30 : f29 v9 = some (.inl (y 0, 31, .inl (fillv 0 31))) := by rw [ef29]; exact (fw_up_n (Ne.symm n11)).trans h25
  have h31 : f29 t10 = some (.inl (y 1, 31, .inl (fun _ => (0 : Int32)))) := by rw [ef29]; exact (fw_up_n (Ne.symm n13)).trans h26
  have h32 : f29 q1 = some (.inr (3, [.ref v9, .ref t10])) := by rw [ef29]; exact (fw_up_n (Ne.symm n2)).trans h27
  have h33 : f29 h0 = some (.inr (7, [.null, .ref q1, .int 0, .int 0, .int 0, .int 0, .null, .null])) := by rw [ef29]; exact fw_up_s
  refine lv_aload_n hx hb dX7_init_26 rfl (lv_at hl 0 rfl) ?_
  refine lv_iconst (v := 0) hx hb dX7_init_27 (by decide) ?_
  refine fw_put hx hb hts hown hE.1.1 hw (ci := 7) (fs := [.null, .ref q1, .int 0, .int 0, .int 0, .int 0, .null, .null]) (v := .int 0) h33 iX7_init_7 tyX7 tyX7_ok nmX7 rfl 4 (by decide) rfl rfl rfl (Nat.le_of_ble_eq_true rfl) (by decide +kernel) dX7_init_28 (fun H locs hw => ?_)
  obtain ⟨f34, ef34⟩ : ∃ z, z = fw_up f29 h0 (.inr (7, [.null, .ref q1, .int 0, .int 0, .int 0, .int 0, .null, .null])) := ⟨_, rfl⟩
  have hw : fw_S D A s.heap f34 H locs := by rw [ef34]; exact hw
  have h35 : f34 v9 = some (.inl (y 0, 31, .inl (fillv 0 31))) := by rw [ef34]; exact (fw_up_n (Ne.symm n11)).trans h30
  have h36 : f34 t10 = some (.inl (y 1, 31, .inl (fun _ => (0 : Int32)))) := by rw [ef34]; exact (fw_up_n (Ne.symm n13)).trans h31
  have h37 : f34 q1 = some (.inr (3, [.ref v9, .ref t10])) := by rw [ef34]; exact (fw_up_n (Ne.symm n2)).trans h32
  have h38 : f34 h0 = some (.inr (7, [.null, .ref q1, .int 0, .int 0, .int 0, .int 0, .null, .null])) := by rw [ef34]; exact fw_up_s
  refine lv_aload_n hx hb dX7_init_31 rfl (lv_at hl 0 rfl) ?_
  refine lv_iconst (v := 0) hx hb dX7_init_32 (by decide) ?_
  refine fw_put hx hb hts hown hE.1.1 hw (ci := 7) (fs := [.null, .ref q1, .int 0, .int 0, .int 0, .int 0, .null, .null]) (v := .int 0) h38 iX7_init_7 tyX7 tyX7_ok nmX7 rfl 5 (by decide) rfl rfl rfl (Nat.le_of_ble_eq_true rfl) (by decide +kernel) dX7_init_33 (fun H locs hw => ?_)
  obtain ⟨f39, ef39⟩ : ∃ z, z = fw_up f34 h0 (.inr (7, [.null, .ref q1, .int 0, .int 0, .int 0, .int 0, .null, .null])) := ⟨_, rfl⟩
  have hw : fw_S D A s.heap f39 H locs := by rw [ef39]; exact hw
  have h40 : f39 v9 = some (.inl (y 0, 31, .inl (fillv 0 31))) := by rw [ef39]; exact (fw_up_n (Ne.symm n11)).trans h35
  have h41 : f39 t10 = some (.inl (y 1, 31, .inl (fun _ => (0 : Int32)))) := by rw [ef39]; exact (fw_up_n (Ne.symm n13)).trans h36
  have h42 : f39 q1 = some (.inr (3, [.ref v9, .ref t10])) := by rw [ef39]; exact (fw_up_n (Ne.symm n2)).trans h37
  have h43 : f39 h0 = some (.inr (7, [.null, .ref q1, .int 0, .int 0, .int 0, .int 0, .null, .null])) := by rw [ef39]; exact fw_up_s
  refine lv_aload_n hx hb dX7_init_36 rfl (lv_at hl 0 rfl) ?_
  refine lv_bipush (v := 20) hx hb dX7_init_37 (by decide) ?_
  refine fw_newQ hx hb hts hown hE.1.1 hw hE.2.1 (C := RX4) (by decide +kernel) (hE.1.2.1 RX4 (by decide +kernel)) 5 rfl (N := 20) (by decide) rfl (by decide) (Nat.le_of_ble_eq_true rfl) (Nat.le_of_ble_eq_true rfl) dX7_init_39 (fun q44 H hnq44 hw => ?_)
  have hbq44 : f q44 = none := by have z9 := hnq44; rw [ef39, ef34, ef29, ef24, ef19, ef7, ef3] at z9; exact (fw_up_o (fw_up_o (fw_up_o (fw_up_o (fw_up_o (fw_up_o (fw_up_o (fw_up_o (fw_up_o z9)))))))))
  have n45 : v9 ≠ q44 := fun z => absurd (h40.symm.trans ((congrArg f39 z).trans hnq44)) (by simp)
  have n46 : t10 ≠ q44 := fun z => absurd (h41.symm.trans ((congrArg f39 z).trans hnq44)) (by simp)
  have n47 : q1 ≠ q44 := fun z => absurd (h42.symm.trans ((congrArg f39 z).trans hnq44)) (by simp)
  have n48 : h0 ≠ q44 := fun z => absurd (h43.symm.trans ((congrArg f39 z).trans hnq44)) (by simp)
  obtain ⟨f49, ef49⟩ : ∃ z, z = fw_up f39 q44 (.inl (y 5, 20, .inr (.inr (.inr (.inr (fun _ => none)))))) := ⟨_, rfl⟩
  have hw : fw_S D A s.heap f49 H locs := by rw [ef49]; exact hw
  have h50 : f49 v9 = some (.inl (y 0, 31, .inl (fillv 0 31))) := by rw [ef49]; exact (fw_up_n n45).trans h40
  have h51 : f49 t10 = some (.inl (y 1, 31, .inl (fun _ => (0 : Int32)))) := by rw [ef49]; exact (fw_up_n n46).trans h41
  have h52 : f49 q1 = some (.inr (3, [.ref v9, .ref t10])) := by rw [ef49]; exact (fw_up_n n47).trans h42
  have h53 : f49 h0 = some (.inr (7, [.null, .ref q1, .int 0, .int 0, .int 0, .int 0, .null, .null])) := by rw [ef49]; exact (fw_up_n n48).trans h43
  have h54 : f49 q44 = some (.inl (y 5, 20, .inr (.inr (.inr (.inr (fun _ => none)))))) := by rw [ef49]; exact fw_up_s
  refine fw_putF hx hb hts hown hE.1.1 hw (ci := 7) (fs := [.null, .ref q1, .int 0, .int 0, .int 0, .int 0, .null, .null]) (v := .ref q44) h53 iX7_init_7 tyX7 tyX7_ok nmX7 rfl 6 (by decide) rfl (hin rfl) rfl rfl rfl (Nat.le_of_ble_eq_true rfl) (by decide +kernel) dX7_init_42 (fun H locs hw => ?_)
  obtain ⟨f55, ef55⟩ : ∃ z, z = fw_up f49 h0 (.inr (7, [.null, .ref q1, .int 0, .int 0, .int 0, .int 0, .ref q44, .null])) := ⟨_, rfl⟩
  have hw : fw_S D A s.heap f55 H locs := by rw [ef55]; exact hw
  have h56 : f55 v9 = some (.inl (y 0, 31, .inl (fillv 0 31))) := by rw [ef55]; exact (fw_up_n (Ne.symm n11)).trans h50
  have h57 : f55 t10 = some (.inl (y 1, 31, .inl (fun _ => (0 : Int32)))) := by rw [ef55]; exact (fw_up_n (Ne.symm n13)).trans h51
  have h58 : f55 q1 = some (.inr (3, [.ref v9, .ref t10])) := by rw [ef55]; exact (fw_up_n (Ne.symm n2)).trans h52
  have h59 : f55 q44 = some (.inl (y 5, 20, .inr (.inr (.inr (.inr (fun _ => none)))))) := by rw [ef55]; exact (fw_up_n (Ne.symm n48)).trans h54
  have h60 : f55 h0 = some (.inr (7, [.null, .ref q1, .int 0, .int 0, .int 0, .int 0, .ref q44, .null])) := by rw [ef55]; exact fw_up_s
  refine lv_aload_n hx hb dX7_init_45 rfl (lv_at hl 0 rfl) ?_
  refine lv_bipush (v := 31) hx hb dX7_init_46 (by decide) ?_
  refine fw_newQ hx hb hts hown hE.1.1 hw hE.2.1 (C := RX5) (by decide +kernel) (hE.1.2.1 RX5 (by decide +kernel)) 6 rfl (N := 31) (by decide) rfl (by decide) (Nat.le_of_ble_eq_true rfl) (Nat.le_of_ble_eq_true rfl) dX7_init_48 (fun q61 H hnq61 hw => ?_)
  have hbq61 : f q61 = none := by have z9 := hnq61; rw [ef55, ef49, ef39, ef34, ef29, ef24, ef19, ef7, ef3] at z9; exact (fw_up_o (fw_up_o (fw_up_o (fw_up_o (fw_up_o (fw_up_o (fw_up_o (fw_up_o (fw_up_o (fw_up_o (fw_up_o z9)))))))))))
  have n62 : v9 ≠ q61 := fun z => absurd (h56.symm.trans ((congrArg f55 z).trans hnq61)) (by simp)
  have n63 : t10 ≠ q61 := fun z => absurd (h57.symm.trans ((congrArg f55 z).trans hnq61)) (by simp)
  have n64 : q1 ≠ q61 := fun z => absurd (h58.symm.trans ((congrArg f55 z).trans hnq61)) (by simp)
  have n65 : q44 ≠ q61 := fun z => absurd (h59.symm.trans ((congrArg f55 z).trans hnq61)) (by simp)
  have n66 : h0 ≠ q61 := fun z => absurd (h60.symm.trans ((congrArg f55 z).trans hnq61)) (by simp)
  obtain ⟨f67, ef67⟩ : ∃ z, z = fw_up f55 q61 (.inl (y 6, 31, .inr (.inr (.inr (.inr (fun _ => none)))))) := ⟨_, rfl⟩
  have hw : fw_S D A s.heap f67 H locs := by rw [ef67]; exact hw
  have h68 : f67 v9 = some (.inl (y 0, 31, .inl (fillv 0 31))) := by rw [ef67]; exact (fw_up_n n62).trans h56
  have h69 : f67 t10 = some (.inl (y 1, 31, .inl (fun _ => (0 : Int32)))) := by rw [ef67]; exact (fw_up_n n63).trans h57
  have h70 : f67 q1 = some (.inr (3, [.ref v9, .ref t10])) := by rw [ef67]; exact (fw_up_n n64).trans h58
  have h71 : f67 q44 = some (.inl (y 5, 20, .inr (.inr (.inr (.inr (fun _ => none)))))) := by rw [ef67]; exact (fw_up_n n65).trans h59
  have h72 : f67 h0 = some (.inr (7, [.null, .ref q1, .int 0, .int 0, .int 0, .int 0, .ref q44, .null])) := by rw [ef67]; exact (fw_up_n n66).trans h60
  have h73 : f67 q61 = some (.inl (y 6, 31, .inr (.inr (.inr (.inr (fun _ => none)))))) := by rw [ef67]; exact fw_up_s
  refine fw_putF hx hb hts hown hE.1.1 hw (ci := 7) (fs := [.null, .ref q1, .int 0, .int 0, .int 0, .int 0, .ref q44, .null]) (v := .ref q61) h72 iX7_init_7 tyX7 tyX7_ok nmX7 rfl 7 (by decide) rfl (hin rfl) rfl rfl rfl (Nat.le_of_ble_eq_true rfl) (by decide +kernel) dX7_init_51 (fun H locs hw => ?_)
  obtain ⟨f74, ef74⟩ : ∃ z, z = fw_up f67 h0 (.inr (7, [.null, .ref q1, .int 0, .int 0, .int 0, .int 0, .ref q44, .ref q61])) := ⟨_, rfl⟩
  have hw : fw_S D A s.heap f74 H locs := by rw [ef74]; exact hw
  have h75 : f74 v9 = some (.inl (y 0, 31, .inl (fillv 0 31))) := by rw [ef74]; exact (fw_up_n (Ne.symm n11)).trans h68
  have h76 : f74 t10 = some (.inl (y 1, 31, .inl (fun _ => (0 : Int32)))) := by rw [ef74]; exact (fw_up_n (Ne.symm n13)).trans h69
  have h77 : f74 q1 = some (.inr (3, [.ref v9, .ref t10])) := by rw [ef74]; exact (fw_up_n (Ne.symm n2)).trans h70
  have h78 : f74 q44 = some (.inl (y 5, 20, .inr (.inr (.inr (.inr (fun _ => none)))))) := by rw [ef74]; exact (fw_up_n (Ne.symm n48)).trans h71
  have h79 : f74 q61 = some (.inl (y 6, 31, .inr (.inr (.inr (.inr (fun _ => none)))))) := by rw [ef74]; exact (fw_up_n (Ne.symm n66)).trans h73
  have h80 : f74 h0 = some (.inr (7, [.null, .ref q1, .int 0, .int 0, .int 0, .int 0, .ref q44, .ref q61])) := by rw [ef74]; exact fw_up_s
  refine lv_aload_n hx hb dX7_init_54 rfl (lv_at hl 0 rfl) ?_
  refine lv_aload_n hx hb dX7_init_55 rfl (lv_at hl 1 rfl) ?_
  refine fw_putF hx hb hts hown hE.1.1 hw (ci := 7) (fs := [.null, .ref q1, .int 0, .int 0, .int 0, .int 0, .ref q44, .ref q61]) (v := .ref pv) h80 iX7_init_7 tyX7 tyX7_ok nmX7 rfl 0 (by decide) rfl (hin rfl) rfl rfl rfl (Nat.le_of_ble_eq_true rfl) (by decide +kernel) dX7_init_56 (fun H locs hw => ?_)
  obtain ⟨f81, ef81⟩ : ∃ z, z = fw_up f74 h0 (.inr (7, [.ref pv, .ref q1, .int 0, .int 0, .int 0, .int 0, .ref q44, .ref q61])) := ⟨_, rfl⟩
  have hw : fw_S D A s.heap f81 H locs := by rw [ef81]; exact hw
  have h82 : f81 v9 = some (.inl (y 0, 31, .inl (fillv 0 31))) := by rw [ef81]; exact (fw_up_n (Ne.symm n11)).trans h75
  have h83 : f81 t10 = some (.inl (y 1, 31, .inl (fun _ => (0 : Int32)))) := by rw [ef81]; exact (fw_up_n (Ne.symm n13)).trans h76
  have h84 : f81 q1 = some (.inr (3, [.ref v9, .ref t10])) := by rw [ef81]; exact (fw_up_n (Ne.symm n2)).trans h77
  have h85 : f81 q44 = some (.inl (y 5, 20, .inr (.inr (.inr (.inr (fun _ => none)))))) := by rw [ef81]; exact (fw_up_n (Ne.symm n48)).trans h78
  have h86 : f81 q61 = some (.inl (y 6, 31, .inr (.inr (.inr (.inr (fun _ => none)))))) := by rw [ef81]; exact (fw_up_n (Ne.symm n66)).trans h79
  have h87 : f81 h0 = some (.inr (7, [.ref pv, .ref q1, .int 0, .int 0, .int 0, .int 0, .ref q44, .ref q61])) := by rw [ef81]; exact fw_up_s
  exact fw_vret hx hb hr hlocks hw (Nat.le_of_ble_eq_true rfl) (Nat.le_of_ble_eq_true rfl) dX7_init_59 (⟨q1, v9, t10, q44, q61, hbq1, hbv9, hbt10, hbq44, hbq61, by simp [Ne.symm hdv9, Ne.symm n12, Ne.symm n14, Ne.symm n45, Ne.symm n46, Ne.symm n47, Ne.symm n62, Ne.symm n63, Ne.symm n64, Ne.symm n65, hdv9, n12, n14, n45, n46, n47, n62, n63, n64, n65], h87, h84, h82, h83, h85, h86, fun b z0 z1 z2 z3 z4 z5 => by rw [ef81, fw_up_n z0, ef74, fw_up_n z0, ef67, fw_up_n z5, ef55, fw_up_n z0, ef49, fw_up_n z4, ef39, fw_up_n z0, ef34, fw_up_n z0, ef29, fw_up_n z0, ef24, fw_up_n z0, ef19, fw_up_n z0, ef7, fw_up_n z1, fw_up_n z3, fw_up_n z2, ef3, fw_up_n z1]⟩)
end
section
/-! THE REFERENCE'S STATE: μ k i, k its field by its place, i the index (0 for a number of its own) -/
abbrev mS : Type := Nat → Nat → Int32
def up2 (μ : mS) (k i : Nat) (v : Int32) : mS := fun a => if a = k then va_up (μ k) i v else μ a
theorem up2_s {μ : mS} {k i : Nat} {v : Int32} : up2 μ k i v k = va_up (μ k) i v := if_pos rfl
theorem up2_n {μ : mS} {k i a : Nat} {v : Int32} (h : a ≠ k) : up2 μ k i v a = μ a := if_neg h
theorem va_up_s {g : Nat → Int32} {i : Nat} {v : Int32} : va_up g i v i = v := if_pos rfl
theorem va_up_n {g : Nat → Int32} {i j : Nat} {v : Int32} (h : j ≠ i) : va_up g i v j = g j := if_neg h
def mK : List Nat := [3, 4, 5, 6, 7, 8, 9, 10, 11, 12, 14, 15, 16, 17, 19, 20, 22, 23, 24]
def mLen (k : Nat) : Nat := match k with
  | 3 => 8
  | 4 => 248
  | 5 => 93
  | 6 => 93
  | 7 => 160
  | 8 => 160
  | 9 => 160
  | 10 => 8
  | 11 => 8
  | 12 => 992
  | 14 => 20
  | 15 => 20
  | 16 => 20
  | 17 => 20
  | 19 => 3
  | 20 => 3
  | 22 => 40
  | 23 => 40
  | 24 => 40
  | _ => 0
def mObj (μ : mS) (β : Nat → Nat) : List Value := [.int (μ 0 0), .int (μ 1 0), .int (μ 2 0), .ref (β 3), .ref (β 4), .ref (β 5), .ref (β 6), .ref (β 7), .ref (β 8), .ref (β 9), .ref (β 10), .ref (β 11), .ref (β 12), .int (μ 13 0), .ref (β 14), .ref (β 15), .ref (β 16), .ref (β 17), .int (μ 18 0), .ref (β 19), .ref (β 20), .int (μ 21 0), .ref (β 22), .ref (β 23), .ref (β 24)]
def Rm (y : Nat → ClassId) (μ : mS) (β : Nat → Nat) (f : fw_F) : Prop := f (β 0) = some (.inr (9, mObj μ β)) ∧ (∀ k ∈ mK, f (β k) = some (.inl (y (if k = 24 then 1 else 0), mLen k, .inl (μ k)))) ∧ ∀ i ∈ 0 :: mK, ∀ j ∈ 0 :: mK, β i = β j → i = j
section RM
variable {y : Nat → ClassId} {μ : mS} {β : Nat → Nat} {f : fw_F}
theorem Rm.o (h : Rm y μ β f) : f (β 0) = some (.inr (9, mObj μ β)) := h.1
theorem mK_0 {k : Nat} (hk : k ∈ mK) : k ≠ 0 := by
  intro z
  rw [z] at hk
  exact absurd hk (by decide)
theorem Rm.setA {k : Nat} (h : Rm y μ β f) (hk : k ∈ mK) (i : Nat) (v : Int32) : Rm y (up2 μ k i v) β (fw_up f (β k) (.inl (y (if k = 24 then 1 else 0), mLen k, .inl (va_up (μ k) i v)))) := by
  refine ⟨?_, fun a ha => ?_, h.2.2⟩
  · rw [fw_up_n (fun z => mK_0 hk (h.2.2 0 List.mem_cons_self k (List.mem_cons_of_mem _ hk) z).symm), h.1]
    have e : ∀ a, a ≠ k → up2 μ k i v a = μ a := fun a q => up2_n q
    simp only [mK, List.mem_cons, List.not_mem_nil, or_false] at hk
    simp only [mObj]
    rw [e 0 (by omega), e 1 (by omega), e 2 (by omega), e 13 (by omega), e 18 (by omega), e 21 (by omega)]
  · by_cases z : a = k
    · rw [z, fw_up_s, up2_s]
    · rw [fw_up_n (fun q => z (h.2.2 a (List.mem_cons_of_mem _ ha) k (List.mem_cons_of_mem _ hk) q)), up2_n z]
      exact h.2.1 a ha
theorem Rm.setF {k : Nat} (h : Rm y μ β f) (hk : k ∉ mK) (v : Int32) : Rm y (up2 μ k 0 v) β (fw_up f (β 0) (.inr (9, mObj (up2 μ k 0 v) β))) := by
  refine ⟨fw_up_s, fun a ha => ?_, h.2.2⟩
  rw [fw_up_n (fun q => mK_0 ha (h.2.2 a (List.mem_cons_of_mem _ ha) 0 List.mem_cons_self q)), up2_n (fun z => hk (by rw [← z]; exact ha))]
  exact h.2.1 a ha
theorem Rm.a3 (h : Rm y μ β f) : f (β 3) = some (.inl (y 0, 8, .inl (μ 3))) := h.2.1 3 (by decide)
theorem Rm.s3 (h : Rm y μ β f) (i : Nat) (v : Int32) : Rm y (up2 μ 3 i v) β (fw_up f (β 3) (.inl (y 0, 8, .inl (va_up (μ 3) i v)))) := h.setA (k := 3) (by decide) i v
theorem Rm.a4 (h : Rm y μ β f) : f (β 4) = some (.inl (y 0, 248, .inl (μ 4))) := h.2.1 4 (by decide)
theorem Rm.s4 (h : Rm y μ β f) (i : Nat) (v : Int32) : Rm y (up2 μ 4 i v) β (fw_up f (β 4) (.inl (y 0, 248, .inl (va_up (μ 4) i v)))) := h.setA (k := 4) (by decide) i v
theorem Rm.a5 (h : Rm y μ β f) : f (β 5) = some (.inl (y 0, 93, .inl (μ 5))) := h.2.1 5 (by decide)
theorem Rm.s5 (h : Rm y μ β f) (i : Nat) (v : Int32) : Rm y (up2 μ 5 i v) β (fw_up f (β 5) (.inl (y 0, 93, .inl (va_up (μ 5) i v)))) := h.setA (k := 5) (by decide) i v
theorem Rm.a6 (h : Rm y μ β f) : f (β 6) = some (.inl (y 0, 93, .inl (μ 6))) := h.2.1 6 (by decide)
theorem Rm.s6 (h : Rm y μ β f) (i : Nat) (v : Int32) : Rm y (up2 μ 6 i v) β (fw_up f (β 6) (.inl (y 0, 93, .inl (va_up (μ 6) i v)))) := h.setA (k := 6) (by decide) i v
theorem Rm.a7 (h : Rm y μ β f) : f (β 7) = some (.inl (y 0, 160, .inl (μ 7))) := h.2.1 7 (by decide)
theorem Rm.s7 (h : Rm y μ β f) (i : Nat) (v : Int32) : Rm y (up2 μ 7 i v) β (fw_up f (β 7) (.inl (y 0, 160, .inl (va_up (μ 7) i v)))) := h.setA (k := 7) (by decide) i v
theorem Rm.a8 (h : Rm y μ β f) : f (β 8) = some (.inl (y 0, 160, .inl (μ 8))) := h.2.1 8 (by decide)
theorem Rm.s8 (h : Rm y μ β f) (i : Nat) (v : Int32) : Rm y (up2 μ 8 i v) β (fw_up f (β 8) (.inl (y 0, 160, .inl (va_up (μ 8) i v)))) := h.setA (k := 8) (by decide) i v
theorem Rm.a9 (h : Rm y μ β f) : f (β 9) = some (.inl (y 0, 160, .inl (μ 9))) := h.2.1 9 (by decide)
theorem Rm.s9 (h : Rm y μ β f) (i : Nat) (v : Int32) : Rm y (up2 μ 9 i v) β (fw_up f (β 9) (.inl (y 0, 160, .inl (va_up (μ 9) i v)))) := h.setA (k := 9) (by decide) i v
theorem Rm.a10 (h : Rm y μ β f) : f (β 10) = some (.inl (y 0, 8, .inl (μ 10))) := h.2.1 10 (by decide)
theorem Rm.s10 (h : Rm y μ β f) (i : Nat) (v : Int32) : Rm y (up2 μ 10 i v) β (fw_up f (β 10) (.inl (y 0, 8, .inl (va_up (μ 10) i v)))) := h.setA (k := 10) (by decide) i v
theorem Rm.a11 (h : Rm y μ β f) : f (β 11) = some (.inl (y 0, 8, .inl (μ 11))) := h.2.1 11 (by decide)
theorem Rm.s11 (h : Rm y μ β f) (i : Nat) (v : Int32) : Rm y (up2 μ 11 i v) β (fw_up f (β 11) (.inl (y 0, 8, .inl (va_up (μ 11) i v)))) := h.setA (k := 11) (by decide) i v
theorem Rm.a12 (h : Rm y μ β f) : f (β 12) = some (.inl (y 0, 992, .inl (μ 12))) := h.2.1 12 (by decide)
theorem Rm.s12 (h : Rm y μ β f) (i : Nat) (v : Int32) : Rm y (up2 μ 12 i v) β (fw_up f (β 12) (.inl (y 0, 992, .inl (va_up (μ 12) i v)))) := h.setA (k := 12) (by decide) i v
theorem Rm.a14 (h : Rm y μ β f) : f (β 14) = some (.inl (y 0, 20, .inl (μ 14))) := h.2.1 14 (by decide)
theorem Rm.s14 (h : Rm y μ β f) (i : Nat) (v : Int32) : Rm y (up2 μ 14 i v) β (fw_up f (β 14) (.inl (y 0, 20, .inl (va_up (μ 14) i v)))) := h.setA (k := 14) (by decide) i v
theorem Rm.a15 (h : Rm y μ β f) : f (β 15) = some (.inl (y 0, 20, .inl (μ 15))) := h.2.1 15 (by decide)
theorem Rm.s15 (h : Rm y μ β f) (i : Nat) (v : Int32) : Rm y (up2 μ 15 i v) β (fw_up f (β 15) (.inl (y 0, 20, .inl (va_up (μ 15) i v)))) := h.setA (k := 15) (by decide) i v
theorem Rm.a16 (h : Rm y μ β f) : f (β 16) = some (.inl (y 0, 20, .inl (μ 16))) := h.2.1 16 (by decide)
theorem Rm.s16 (h : Rm y μ β f) (i : Nat) (v : Int32) : Rm y (up2 μ 16 i v) β (fw_up f (β 16) (.inl (y 0, 20, .inl (va_up (μ 16) i v)))) := h.setA (k := 16) (by decide) i v
theorem Rm.a17 (h : Rm y μ β f) : f (β 17) = some (.inl (y 0, 20, .inl (μ 17))) := h.2.1 17 (by decide)
theorem Rm.s17 (h : Rm y μ β f) (i : Nat) (v : Int32) : Rm y (up2 μ 17 i v) β (fw_up f (β 17) (.inl (y 0, 20, .inl (va_up (μ 17) i v)))) := h.setA (k := 17) (by decide) i v
theorem Rm.a19 (h : Rm y μ β f) : f (β 19) = some (.inl (y 0, 3, .inl (μ 19))) := h.2.1 19 (by decide)
theorem Rm.s19 (h : Rm y μ β f) (i : Nat) (v : Int32) : Rm y (up2 μ 19 i v) β (fw_up f (β 19) (.inl (y 0, 3, .inl (va_up (μ 19) i v)))) := h.setA (k := 19) (by decide) i v
theorem Rm.a20 (h : Rm y μ β f) : f (β 20) = some (.inl (y 0, 3, .inl (μ 20))) := h.2.1 20 (by decide)
theorem Rm.s20 (h : Rm y μ β f) (i : Nat) (v : Int32) : Rm y (up2 μ 20 i v) β (fw_up f (β 20) (.inl (y 0, 3, .inl (va_up (μ 20) i v)))) := h.setA (k := 20) (by decide) i v
theorem Rm.a22 (h : Rm y μ β f) : f (β 22) = some (.inl (y 0, 40, .inl (μ 22))) := h.2.1 22 (by decide)
theorem Rm.s22 (h : Rm y μ β f) (i : Nat) (v : Int32) : Rm y (up2 μ 22 i v) β (fw_up f (β 22) (.inl (y 0, 40, .inl (va_up (μ 22) i v)))) := h.setA (k := 22) (by decide) i v
theorem Rm.a23 (h : Rm y μ β f) : f (β 23) = some (.inl (y 0, 40, .inl (μ 23))) := h.2.1 23 (by decide)
theorem Rm.s23 (h : Rm y μ β f) (i : Nat) (v : Int32) : Rm y (up2 μ 23 i v) β (fw_up f (β 23) (.inl (y 0, 40, .inl (va_up (μ 23) i v)))) := h.setA (k := 23) (by decide) i v
theorem Rm.a24 (h : Rm y μ β f) : f (β 24) = some (.inl (y 1, 40, .inl (μ 24))) := h.2.1 24 (by decide)
theorem Rm.s24 (h : Rm y μ β f) (i : Nat) (v : Int32) : Rm y (up2 μ 24 i v) β (fw_up f (β 24) (.inl (y 1, 40, .inl (va_up (μ 24) i v)))) := h.setA (k := 24) (by decide) i v
theorem Rm.p0 (h : Rm y μ β f) (v : Int32) : Rm y (up2 μ 0 0 v) β (fw_up f (β 0) (.inr (9, [.int v, .int (μ 1 0), .int (μ 2 0), .ref (β 3), .ref (β 4), .ref (β 5), .ref (β 6), .ref (β 7), .ref (β 8), .ref (β 9), .ref (β 10), .ref (β 11), .ref (β 12), .int (μ 13 0), .ref (β 14), .ref (β 15), .ref (β 16), .ref (β 17), .int (μ 18 0), .ref (β 19), .ref (β 20), .int (μ 21 0), .ref (β 22), .ref (β 23), .ref (β 24)]))) := h.setF (k := 0) (by decide) v
theorem Rm.p1 (h : Rm y μ β f) (v : Int32) : Rm y (up2 μ 1 0 v) β (fw_up f (β 0) (.inr (9, [.int (μ 0 0), .int v, .int (μ 2 0), .ref (β 3), .ref (β 4), .ref (β 5), .ref (β 6), .ref (β 7), .ref (β 8), .ref (β 9), .ref (β 10), .ref (β 11), .ref (β 12), .int (μ 13 0), .ref (β 14), .ref (β 15), .ref (β 16), .ref (β 17), .int (μ 18 0), .ref (β 19), .ref (β 20), .int (μ 21 0), .ref (β 22), .ref (β 23), .ref (β 24)]))) := h.setF (k := 1) (by decide) v
theorem Rm.p2 (h : Rm y μ β f) (v : Int32) : Rm y (up2 μ 2 0 v) β (fw_up f (β 0) (.inr (9, [.int (μ 0 0), .int (μ 1 0), .int v, .ref (β 3), .ref (β 4), .ref (β 5), .ref (β 6), .ref (β 7), .ref (β 8), .ref (β 9), .ref (β 10), .ref (β 11), .ref (β 12), .int (μ 13 0), .ref (β 14), .ref (β 15), .ref (β 16), .ref (β 17), .int (μ 18 0), .ref (β 19), .ref (β 20), .int (μ 21 0), .ref (β 22), .ref (β 23), .ref (β 24)]))) := h.setF (k := 2) (by decide) v
theorem Rm.p13 (h : Rm y μ β f) (v : Int32) : Rm y (up2 μ 13 0 v) β (fw_up f (β 0) (.inr (9, [.int (μ 0 0), .int (μ 1 0), .int (μ 2 0), .ref (β 3), .ref (β 4), .ref (β 5), .ref (β 6), .ref (β 7), .ref (β 8), .ref (β 9), .ref (β 10), .ref (β 11), .ref (β 12), .int v, .ref (β 14), .ref (β 15), .ref (β 16), .ref (β 17), .int (μ 18 0), .ref (β 19), .ref (β 20), .int (μ 21 0), .ref (β 22), .ref (β 23), .ref (β 24)]))) := h.setF (k := 13) (by decide) v
theorem Rm.p18 (h : Rm y μ β f) (v : Int32) : Rm y (up2 μ 18 0 v) β (fw_up f (β 0) (.inr (9, [.int (μ 0 0), .int (μ 1 0), .int (μ 2 0), .ref (β 3), .ref (β 4), .ref (β 5), .ref (β 6), .ref (β 7), .ref (β 8), .ref (β 9), .ref (β 10), .ref (β 11), .ref (β 12), .int (μ 13 0), .ref (β 14), .ref (β 15), .ref (β 16), .ref (β 17), .int v, .ref (β 19), .ref (β 20), .int (μ 21 0), .ref (β 22), .ref (β 23), .ref (β 24)]))) := h.setF (k := 18) (by decide) v
theorem Rm.p21 (h : Rm y μ β f) (v : Int32) : Rm y (up2 μ 21 0 v) β (fw_up f (β 0) (.inr (9, [.int (μ 0 0), .int (μ 1 0), .int (μ 2 0), .ref (β 3), .ref (β 4), .ref (β 5), .ref (β 6), .ref (β 7), .ref (β 8), .ref (β 9), .ref (β 10), .ref (β 11), .ref (β 12), .int (μ 13 0), .ref (β 14), .ref (β 15), .ref (β 16), .ref (β 17), .int (μ 18 0), .ref (β 19), .ref (β 20), .int v, .ref (β 22), .ref (β 23), .ref (β 24)]))) := h.setF (k := 21) (by decide) v
end RM
theorem nI_mul (a b : Nat) : nI a * nI b = nI (a * b) := (Int32.ofNat_mul a b).symm
theorem fw_b1 {P : Prop} [Decidable P] (h : ¬ (if P then (1 : Int32) else 0) = 0) : P := by
  by_cases z : P
  · exact z
  · exact absurd (if_neg z) h
theorem fw_b0 {P : Prop} [Decidable P] (h : (if P then (1 : Int32) else 0) = 0) : ¬ P := by
  intro z
  rw [if_pos z] at h
  exact absurd h (by decide)
theorem fw_bz {P : Prop} [Decidable P] : narrow .boolean (.int (if P then (1 : Int32) else 0)) = .int (if P then (1 : Int32) else 0) := by
  by_cases z : P
  · rw [if_pos z]; decide +kernel
  · rw [if_neg z]; decide +kernel
abbrev inr (v a b : Int32) : Prop := a ≤ v ∧ v ≤ b
theorem inr_of {v N : Int32} {n : Nat} (hN : N.toInt = n) (h : inr v 0 N) : ∃ j, j ≤ n ∧ v = nI j := nI_of2 hN (Int32.not_lt.mpr h.1) h.2
theorem inr_w {v : Int32} {n : Nat} (hn : n < 100000) (h : inr v 0 (nI n - 1)) : ∃ j, j < n ∧ v = nI j := by
  cases n with
  | zero =>
    have h2 := h.2
    have h1 := h.1
    rw [Int32.le_iff_toInt_le] at h1 h2
    have e : (nI 0 - 1 : Int32).toInt = -1 := by decide +kernel
    rw [e] at h2
    have e0 : (0 : Int32).toInt = 0 := rfl
    omega
  | succ n =>
    rw [nI_pred] at h
    obtain ⟨j, h1, h2⟩ := nI_of2 (nI_toInt (by omega)) (Int32.not_lt.mpr h.1) h.2
    exact ⟨j, by omega, h2⟩
/-- the latest place at or ahead of p where a row holds something -/
def tld (r : Nat → Int32) : Nat → Nat
  | 0 => 0
  | n + 1 => if r (n + 1) = -1 then tld r n else n + 1
theorem tld_le (r : Nat → Int32) : ∀ p, tld r p ≤ p
  | 0 => Nat.le_refl _
  | n + 1 => by
    unfold tld
    split
    · have := tld_le r n
      omega
    · exact Nat.le_refl _
theorem tld_ge {r : Nat → Int32} {b : Nat} (hb : ¬ r b = -1) : ∀ p, b ≤ p → b ≤ tld r p
  | 0, h => by omega
  | n + 1, h => by
    unfold tld
    split
    · rename_i z
      by_cases q : b = n + 1
      · rw [q] at hb
        exact absurd z hb
      · exact tld_ge hb n (by omega)
    · exact h
theorem tld_step {r : Nat → Int32} {p : Nat} (h0 : 0 < p) (h : r p = -1) : tld r p = tld r (p - 1) := by
  cases p with
  | zero => omega
  | succ n => show (if r (n + 1) = -1 then tld r n else n + 1) = _; rw [if_pos h]; rfl
theorem tld_stop {r : Nat → Int32} {p : Nat} (h : ¬ r p = -1) : tld r p = p := by
  cases p with
  | zero => rfl
  | succ n => exact if_neg h
theorem tld_ne {r : Nat → Int32} {b : Nat} (hb : ¬ r b = -1) : ∀ p, b ≤ p → ¬ r (tld r p) = -1
  | 0, h => by
    have : b = 0 := by omega
    rw [this] at hb
    exact hb
  | n + 1, h => by
    by_cases z : r (n + 1) = -1
    · rw [tld_step (by omega) z]
      by_cases q : b = n + 1
      · rw [q] at hb
        exact absurd z hb
      · exact tld_ne hb n (by omega)
    · rw [tld_stop z]
      exact z
/-- how many sheets stand from place b on without a gap -/
def cntM (g : Nat → Int32) (b : Nat) : Nat → Nat → Nat
  | 0, k => k
  | n + 1, k => if g (b + k) = -1 then k else cntM g b n (k + 1)
theorem cntM_le {g : Nat → Int32} {b : Nat} : ∀ (n k : Nat), cntM g b n k ≤ k + n := by
  intro n
  induction n with
  | zero => intro k; exact Nat.le_refl _
  | succ n ih =>
    intro k
    unfold cntM
    split
    · omega
    · have := ih (k + 1)
      omega
/-- what every call finds of the reference's numbers -/
def Im (μ : mS) (nw wk no nt : Nat) : Prop := μ 2 0 = nI nw ∧ nw ≤ 8 ∧ μ 1 0 = nI wk ∧ wk ≤ 31 ∧ μ 13 0 = nI no ∧ no ≤ 20 ∧ μ 21 0 = nI nt ∧ nt ≤ 40 ∧ (∀ w, w < 8 → ¬ μ 4 (31 * w) = -1) ∧ (∀ i, i < 248 → μ 4 i = -1 ∨ ∃ r, r < 3 ∧ μ 4 i = nI r) ∧ (∀ r, r < 3 → ¬ μ 5 (31 * r) = -1) ∧ (∀ w, w < nw → ∃ e, e < 3 ∧ μ 3 w = nI e) ∧ (∀ t, t < nt → ∃ e, e < 3 ∧ μ 22 t = nI e)
def lst (a b : Int32) : Int32 := if a < b then a else b
def cnM (μ : mS) (w : Nat) : Nat := cntM (μ 7) (20 * w) 20 0
theorem cnM_le (μ : mS) (w : Nat) : cnM μ w ≤ 20 := by
  have := cntM_le (g := μ 7) (b := 20 * w) 20 0
  unfold cnM
  omega
def rkM (μ : mS) (w k : Nat) : Int32 := μ 4 (tld (μ 4) (31 * w + k))
/-- what is due of the first n sheets of w for the week k, rates at the place q -/
def dsM (μ : mS) (w k q : Nat) : Nat → Int32
  | 0 => 0
  | n + 1 => dsM μ w k q n + (if μ 7 (20 * w + n) = nI k then μ 8 (20 * w + n) * μ 5 q + μ 9 (20 * w + n) * μ 6 q else 0)
def duM (μ : mS) (w k : Nat) : Int32 := dsM μ w k (tld (μ 5) (31 * (rkM μ w k).toNatClampNeg + k)) (cnM μ w)
def csM (μ : mS) (w : Nat) : Nat → Int32
  | 0 => 0
  | n + 1 => csM μ w n + duM μ w n
def clM (μ : mS) (w : Nat) : Int32 := csM μ w (min ((μ 1 0).toNatClampNeg + 1) 31) - μ 10 w
end
section
theorem nI_dec {a : Nat} (h : 0 < a) : nI a + Int32.ofInt (-1) = nI (a - 1) := by
  obtain ⟨b, rfl⟩ : ∃ b, a = b + 1 := ⟨a - 1, by omega⟩
  rw [show Int32.ofInt (-1) = -1 from rfl, Nat.add_sub_cancel, ← nI_pred b]
  exact (Int32.sub_eq_add_neg _ _).symm
set_option maxHeartbeats 4000000 in
set_option maxRecDepth 100000 in
/-- in -/
theorem c_X9_in (l : Launch) (D : va_G) (A : Nat → Prop) (y : Nat → ClassId) (sa : Nat → Nat) (f : fw_F) (p0 p1 p2 : Int32) : Met l yX9_in wsX9_in ({ frames := 0, cells := 0, slots := 0, locals := 0 } : Room) (cPc D A y sa f [.int p0, .int p1, .int p2]) (cQi D A (fun r f1 => r = (if inr p0 p1 p2 then 1 else 0) ∧ f1 = f)) 0 0 A := by
  refine fw_met (by decide) rfl [.int p0, .int p1, .int p2] (Nat.le_of_ble_eq_true rfl) ?_
  intro p e s m args below meth c ls I hin hE hw hl
  obtain ⟨hx, hb, hr, hts, hown, hlocks, hml⟩ := I
  have hown : s.vm.findClass RX9 = some m.cls := hown
  have hl : lv_has ls 3 [(0, .int p0), (1, .int p1), (2, .int p2)] := hl
  refine lv_iload_n hx hb dX9_in_0 rfl (lv_at hl 0 rfl) ?_
  refine lv_iload_n hx hb dX9_in_1 rfl (lv_at hl 1 rfl) ?_
  refine lv_icmp_lt (tgt := 14) hx hb dX9_in_2 (by decide) (fun c_1 => ?_) (fun c_1 => ?_)
  · refine lv_iconst (v := 0) hx hb dX9_in_14 (by decide) ?_
    exact fw_zret hx hb hr hlocks hw (Nat.le_of_ble_eq_true rfl) (Nat.le_of_ble_eq_true rfl) (by decide +kernel) dX9_in_15 (⟨(if_neg (fun z => absurd c_1 (Int32.not_lt.mpr z.1))).symm, rfl⟩)
  · refine lv_iload_n hx hb dX9_in_5 rfl (lv_at hl 0 rfl) ?_
    refine lv_iload_n hx hb dX9_in_6 rfl (lv_at hl 2 rfl) ?_
    refine lv_icmp_gt (tgt := 14) hx hb dX9_in_7 (by decide) (fun c_2 => ?_) (fun c_2 => ?_)
    · refine lv_iconst (v := 0) hx hb dX9_in_14 (by decide) ?_
      exact fw_zret hx hb hr hlocks hw (Nat.le_of_ble_eq_true rfl) (Nat.le_of_ble_eq_true rfl) (by decide +kernel) dX9_in_15 (⟨(if_neg (fun z => absurd c_2 (Int32.not_lt.mpr z.2))).symm, rfl⟩)
    · refine lv_iconst (v := 1) hx hb dX9_in_10 (by decide) ?_
      refine lv_goto (tgt := 15) hx hb dX9_in_11 (by decide) ?_
      exact fw_zret hx hb hr hlocks hw (Nat.le_of_ble_eq_true rfl) (Nat.le_of_ble_eq_true rfl) (by decide +kernel) dX9_in_15 (⟨(if_pos ⟨Int32.not_lt.mp c_1, Int32.not_lt.mp c_2⟩).symm, rfl⟩)

set_option maxHeartbeats 4000000 in
set_option maxRecDepth 100000 in
/-- least -/
theorem c_X9_least (l : Launch) (D : va_G) (A : Nat → Prop) (y : Nat → ClassId) (sa : Nat → Nat) (f : fw_F) (p0 p1 : Int32) : Met l yX9_least wsX9_least ({ frames := 0, cells := 0, slots := 0, locals := 0 } : Room) (cPc D A y sa f [.int p0, .int p1]) (cQi D A (fun r f1 => r = lst p0 p1 ∧ f1 = f)) 0 0 A := by
  refine fw_met (by decide) rfl [.int p0, .int p1] (Nat.le_of_ble_eq_true rfl) ?_
  intro p e s m args below meth c ls I hin hE hw hl
  obtain ⟨hx, hb, hr, hts, hown, hlocks, hml⟩ := I
  have hown : s.vm.findClass RX9 = some m.cls := hown
  have hl : lv_has ls 2 [(0, .int p0), (1, .int p1)] := hl
  refine lv_iload_n hx hb dX9_least_0 rfl (lv_at hl 0 rfl) ?_
  refine lv_iload_n hx hb dX9_least_1 rfl (lv_at hl 1 rfl) ?_
  refine lv_icmp_ge (tgt := 9) hx hb dX9_least_2 (by decide) (fun c_1 => ?_) (fun c_1 => ?_)
  · refine lv_iload_n hx hb dX9_least_9 rfl (lv_at hl 1 rfl) ?_
    exact fw_iret hx hb hr hlocks hw (Nat.le_of_ble_eq_true rfl) (Nat.le_of_ble_eq_true rfl) dX9_least_10 (⟨(if_neg (Int32.not_lt.mpr c_1)).symm, rfl⟩)
  · refine lv_iload_n hx hb dX9_least_5 rfl (lv_at hl 0 rfl) ?_
    refine lv_goto (tgt := 10) hx hb dX9_least_6 (by decide) ?_
    exact fw_iret hx hb hr hlocks hw (Nat.le_of_ble_eq_true rfl) (Nat.le_of_ble_eq_true rfl) dX9_least_10 (⟨(if_pos (Int32.not_le.mp c_1)).symm, rfl⟩)

set_option maxHeartbeats 4000000 in
set_option maxRecDepth 100000 in
/-- X9_isWeek -/
theorem c_X9_isWeek (l : Launch) (D : va_G) (A : Nat → Prop) (y : Nat → ClassId) (sa : Nat → Nat) (f : fw_F) (p0 : Int32) : Met l yX9_isWeek wsX9_isWeek ({ frames := 1, cells := 0, slots := 0, locals := 22 } : Room) (cPc D A y sa f [.int p0]) (cQi D A (fun r f1 => r = (if inr p0 0 30 then 1 else 0) ∧ f1 = f)) 0 0 A := by
  refine fw_met (by decide) rfl [.int p0] (Nat.le_of_ble_eq_true rfl) ?_
  intro p e s m args below meth c ls I hin hE hw hl
  obtain ⟨hx, hb, hr, hts, hown, hlocks, hml⟩ := I
  have hown : s.vm.findClass RX9 = some m.cls := hown
  have hl : lv_has ls 1 [(0, .int p0)] := hl
  refine lv_iload_n hx hb dX9_isWeek_0 rfl (lv_at hl 0 rfl) ?_
  refine lv_iconst (v := 0) hx hb dX9_isWeek_1 (by decide) ?_
  refine lv_bipush (v := 30) hx hb dX9_isWeek_2 (by decide) ?_
  refine fw_callSi hx hb hml hown hts hE hw [.int p0, .int 0, .int 30] [] (c_X9_in l D A y sa f p0 0 30) (va_cwS 3 hts gX9_isWeek_X9_in rfl rfl rfl (by decide +kernel) ⟨Nat.le_of_ble_eq_true rfl, Nat.le_of_ble_eq_true rfl⟩) rfl hl.1 rfl (Nat.le_of_ble_eq_true rfl) dX9_isWeek_4 ⟨Nat.le_of_ble_eq_true rfl, Nat.le_of_ble_eq_true rfl⟩ (fun r1 f2 H locs hp3 hw => ?_)
  obtain ⟨hp3a, hp3b⟩ := hp3
  rw [hp3b] at hw
  rw [hp3a]
  exact fw_zret hx hb hr hlocks hw (Nat.le_of_ble_eq_true rfl) (Nat.le_of_ble_eq_true rfl) (by exact fw_bz) dX9_isWeek_7 (⟨rfl, rfl⟩)

set_option maxHeartbeats 4000000 in
set_option maxRecDepth 100000 in
/-- X9_isEmployer -/
theorem c_X9_isEmployer (l : Launch) (D : va_G) (A : Nat → Prop) (y : Nat → ClassId) (sa : Nat → Nat) (f : fw_F) (p0 : Int32) : Met l yX9_isEmployer wsX9_isEmployer ({ frames := 1, cells := 0, slots := 0, locals := 22 } : Room) (cPc D A y sa f [.int p0]) (cQi D A (fun r f1 => r = (if inr p0 0 2 then 1 else 0) ∧ f1 = f)) 0 0 A := by
  refine fw_met (by decide) rfl [.int p0] (Nat.le_of_ble_eq_true rfl) ?_
  intro p e s m args below meth c ls I hin hE hw hl
  obtain ⟨hx, hb, hr, hts, hown, hlocks, hml⟩ := I
  have hown : s.vm.findClass RX9 = some m.cls := hown
  have hl : lv_has ls 1 [(0, .int p0)] := hl
  refine lv_iload_n hx hb dX9_isEmployer_0 rfl (lv_at hl 0 rfl) ?_
  refine lv_iconst (v := 0) hx hb dX9_isEmployer_1 (by decide) ?_
  refine lv_iconst (v := 2) hx hb dX9_isEmployer_2 (by decide) ?_
  refine fw_callSi hx hb hml hown hts hE hw [.int p0, .int 0, .int 2] [] (c_X9_in l D A y sa f p0 0 2) (va_cwS 3 hts gX9_isEmployer_X9_in rfl rfl rfl (by decide +kernel) ⟨Nat.le_of_ble_eq_true rfl, Nat.le_of_ble_eq_true rfl⟩) rfl hl.1 rfl (Nat.le_of_ble_eq_true rfl) dX9_isEmployer_3 ⟨Nat.le_of_ble_eq_true rfl, Nat.le_of_ble_eq_true rfl⟩ (fun r1 f2 H locs hp3 hw => ?_)
  obtain ⟨hp3a, hp3b⟩ := hp3
  rw [hp3b] at hw
  rw [hp3a]
  exact fw_zret hx hb hr hlocks hw (Nat.le_of_ble_eq_true rfl) (Nat.le_of_ble_eq_true rfl) (by exact fw_bz) dX9_isEmployer_6 (⟨rfl, rfl⟩)

set_option maxHeartbeats 4000000 in
set_option maxRecDepth 100000 in
/-- X9_areHours -/
theorem c_X9_areHours (l : Launch) (D : va_G) (A : Nat → Prop) (y : Nat → ClassId) (sa : Nat → Nat) (f : fw_F) (p0 p1 : Int32) : Met l yX9_areHours wsX9_areHours ({ frames := 1, cells := 0, slots := 0, locals := 22 } : Room) (cPc D A y sa f [.int p0, .int p1]) (cQi D A (fun r f1 => r = (if inr p0 0 100 ∧ inr p1 0 100 then 1 else 0) ∧ f1 = f)) 0 0 A := by
  refine fw_met (by decide) rfl [.int p0, .int p1] (Nat.le_of_ble_eq_true rfl) ?_
  intro p e s m args below meth c ls I hin hE hw hl
  obtain ⟨hx, hb, hr, hts, hown, hlocks, hml⟩ := I
  have hown : s.vm.findClass RX9 = some m.cls := hown
  have hl : lv_has ls 2 [(0, .int p0), (1, .int p1)] := hl
  refine lv_iload_n hx hb dX9_areHours_0 rfl (lv_at hl 0 rfl) ?_
  refine lv_iconst (v := 0) hx hb dX9_areHours_1 (by decide) ?_
  refine lv_bipush (v := 100) hx hb dX9_areHours_2 (by decide) ?_
  refine fw_callSi hx hb hml hown hts hE hw [.int p0, .int 0, .int 100] [] (c_X9_in l D A y sa f p0 0 100) (va_cwS 3 hts gX9_areHours_X9_in rfl rfl rfl (by decide +kernel) ⟨Nat.le_of_ble_eq_true rfl, Nat.le_of_ble_eq_true rfl⟩) rfl hl.1 rfl (Nat.le_of_ble_eq_true rfl) dX9_areHours_4 ⟨Nat.le_of_ble_eq_true rfl, Nat.le_of_ble_eq_true rfl⟩ (fun r1 f2 H locs hp3 hw => ?_)
  obtain ⟨hp3a, hp3b⟩ := hp3
  rw [hp3b] at hw
  rw [hp3a]
  refine lv_if_eq (tgt := 24) hx hb dX9_areHours_7 (by decide) (fun c_4 => ?_) (fun c_4 => ?_)
  · have c_4 := fw_b0 c_4
    refine lv_iconst (v := 0) hx hb dX9_areHours_24 (by decide) ?_
    exact fw_zret hx hb hr hlocks hw (Nat.le_of_ble_eq_true rfl) (Nat.le_of_ble_eq_true rfl) (by decide +kernel) dX9_areHours_25 (⟨(if_neg (fun z => c_4 z.1)).symm, rfl⟩)
  · have c_4 := fw_b1 c_4
    refine lv_iload_n hx hb dX9_areHours_10 rfl (lv_at hl 1 rfl) ?_
    refine lv_iconst (v := 0) hx hb dX9_areHours_11 (by decide) ?_
    refine lv_bipush (v := 100) hx hb dX9_areHours_12 (by decide) ?_
    refine fw_callSi hx hb hml hown hts hE hw [.int p1, .int 0, .int 100] [] (c_X9_in l D A y sa f p1 0 100) (va_cwS 3 hts gX9_areHours_X9_in rfl rfl rfl (by decide +kernel) ⟨Nat.le_of_ble_eq_true rfl, Nat.le_of_ble_eq_true rfl⟩) rfl hl.1 rfl (Nat.le_of_ble_eq_true rfl) dX9_areHours_14 ⟨Nat.le_of_ble_eq_true rfl, Nat.le_of_ble_eq_true rfl⟩ (fun r5 f6 H locs hp7 hw => ?_)
    obtain ⟨hp7a, hp7b⟩ := hp7
    rw [hp7b] at hw
    rw [hp7a]
    refine lv_if_eq (tgt := 24) hx hb dX9_areHours_17 (by decide) (fun c_8 => ?_) (fun c_8 => ?_)
    · have c_8 := fw_b0 c_8
      refine lv_iconst (v := 0) hx hb dX9_areHours_24 (by decide) ?_
      exact fw_zret hx hb hr hlocks hw (Nat.le_of_ble_eq_true rfl) (Nat.le_of_ble_eq_true rfl) (by decide +kernel) dX9_areHours_25 (⟨(if_neg (fun z => c_8 z.2)).symm, rfl⟩)
    · have c_8 := fw_b1 c_8
      refine lv_iconst (v := 1) hx hb dX9_areHours_20 (by decide) ?_
      refine lv_goto (tgt := 25) hx hb dX9_areHours_21 (by decide) ?_
      exact fw_zret hx hb hr hlocks hw (Nat.le_of_ble_eq_true rfl) (Nat.le_of_ble_eq_true rfl) (by decide +kernel) dX9_areHours_25 (⟨(if_pos ⟨c_4, c_8⟩).symm, rfl⟩)

theorem iX9_isWorker_9 : ∀ w ∈ wsX90, w ∈ wsX9_isWorker := by decide +kernel
set_option maxHeartbeats 4000000 in
set_option maxRecDepth 100000 in
/-- X9_isWorker -/
theorem c_X9_isWorker (l : Launch) (D : va_G) (A : Nat → Prop) (y : Nat → ClassId) (sa : Nat → Nat) (f : fw_F) (β : Nat → Nat) (μ : mS) (p0 : Int32) (hR : Rm y μ β f) : Met l yX9_isWorker wsX9_isWorker ({ frames := 1, cells := 0, slots := 0, locals := 22 } : Room) (cPc D A y sa f [.ref (β 0), .int p0]) (cQi D A (fun r f1 => r = (if inr p0 0 (μ 2 0 - 1) then 1 else 0) ∧ f1 = f)) 0 0 A := by
  refine fw_met (by decide) rfl [.ref (β 0), .int p0] (Nat.le_of_ble_eq_true rfl) ?_
  intro p e s m args below meth c ls I hin hE hw hl
  obtain ⟨hx, hb, hr, hts, hown, hlocks, hml⟩ := I
  have hown : s.vm.findClass RX9 = some m.cls := hown
  have hl : lv_has ls 2 [(0, .ref (β 0)), (1, .int p0)] := hl
  refine lv_iload_n hx hb dX9_isWorker_0 rfl (lv_at hl 1 rfl) ?_
  refine lv_iconst (v := 0) hx hb dX9_isWorker_1 (by decide) ?_
  refine lv_aload_n hx hb dX9_isWorker_2 rfl (lv_at hl 0 rfl) ?_
  refine fw_get hx hb hts hown hE.1.1 hw (ci := 9) (fs := [.int (μ 0 0), .int (μ 1 0), .int (μ 2 0), .ref (β 3), .ref (β 4), .ref (β 5), .ref (β 6), .ref (β 7), .ref (β 8), .ref (β 9), .ref (β 10), .ref (β 11), .ref (β 12), .int (μ 13 0), .ref (β 14), .ref (β 15), .ref (β 16), .ref (β 17), .int (μ 18 0), .ref (β 19), .ref (β 20), .int (μ 21 0), .ref (β 22), .ref (β 23), .ref (β 24)]) (v := .int (μ 2 0)) hR.o iX9_isWorker_9 rfl 2 (by decide) rfl (by decide +kernel) dX9_isWorker_3 ?_
  refine lv_iconst (v := 1) hx hb dX9_isWorker_6 (by decide) ?_
  refine lv_isub hx hb dX9_isWorker_7 ?_
  refine fw_callSi hx hb hml hown hts hE hw [.int p0, .int 0, .int ((μ 2 0) - 1)] [] (c_X9_in l D A y sa f p0 0 ((μ 2 0) - 1)) (va_cwS 3 hts gX9_isWorker_X9_in rfl rfl rfl (by decide +kernel) ⟨Nat.le_of_ble_eq_true rfl, Nat.le_of_ble_eq_true rfl⟩) rfl hl.1 rfl (Nat.le_of_ble_eq_true rfl) dX9_isWorker_8 ⟨Nat.le_of_ble_eq_true rfl, Nat.le_of_ble_eq_true rfl⟩ (fun r1 f2 H locs hp3 hw => ?_)
  obtain ⟨hp3a, hp3b⟩ := hp3
  rw [hp3b] at hw
  rw [hp3a]
  exact fw_zret hx hb hr hlocks hw (Nat.le_of_ble_eq_true rfl) (Nat.le_of_ble_eq_true rfl) (by exact fw_bz) dX9_isWorker_11 (⟨rfl, rfl⟩)

theorem iX9_holds_9 : ∀ w ∈ wsX90, w ∈ wsX9_holds := by decide +kernel
set_option maxHeartbeats 4000000 in
set_option maxRecDepth 100000 in
/-- X9_holds -/
theorem c_X9_holds (l : Launch) (D : va_G) (A : Nat → Prop) (y : Nat → ClassId) (sa : Nat → Nat) (f : fw_F) (β : Nat → Nat) (μ : mS) (p0 : Int32) (hR : Rm y μ β f) : Met l yX9_holds wsX9_holds ({ frames := 0, cells := 0, slots := 0, locals := 0 } : Room) (cPc D A y sa f [.ref (β 0), .int p0]) (cQi D A (fun r f1 => r = (if p0 = 0 then 1 else 0) ∧ Rm y (up2 μ 0 0 p0) β f1)) 0 0 A := by
  refine fw_met (by decide) rfl [.ref (β 0), .int p0] (Nat.le_of_ble_eq_true rfl) ?_
  intro p e s m args below meth c ls I hin hE hw hl
  obtain ⟨hx, hb, hr, hts, hown, hlocks, hml⟩ := I
  have hown : s.vm.findClass RX9 = some m.cls := hown
  have hl : lv_has ls 2 [(0, .ref (β 0)), (1, .int p0)] := hl
  refine lv_aload_n hx hb dX9_holds_0 rfl (lv_at hl 0 rfl) ?_
  refine lv_iload_n hx hb dX9_holds_1 rfl (lv_at hl 1 rfl) ?_
  refine fw_put hx hb hts hown hE.1.1 hw (ci := 9) (fs := [.int (μ 0 0), .int (μ 1 0), .int (μ 2 0), .ref (β 3), .ref (β 4), .ref (β 5), .ref (β 6), .ref (β 7), .ref (β 8), .ref (β 9), .ref (β 10), .ref (β 11), .ref (β 12), .int (μ 13 0), .ref (β 14), .ref (β 15), .ref (β 16), .ref (β 17), .int (μ 18 0), .ref (β 19), .ref (β 20), .int (μ 21 0), .ref (β 22), .ref (β 23), .ref (β 24)]) (v := .int p0) hR.o iX9_holds_9 tyX9 tyX9_ok nmX9 rfl 0 (by decide) rfl rfl rfl (Nat.le_of_ble_eq_true rfl) (by decide +kernel) dX9_holds_2 (fun H locs hw => ?_)
  obtain ⟨f1, ef1⟩ : ∃ z, z = fw_up f (β 0) (.inr (9, [.int p0, .int (μ 1 0), .int (μ 2 0), .ref (β 3), .ref (β 4), .ref (β 5), .ref (β 6), .ref (β 7), .ref (β 8), .ref (β 9), .ref (β 10), .ref (β 11), .ref (β 12), .int (μ 13 0), .ref (β 14), .ref (β 15), .ref (β 16), .ref (β 17), .int (μ 18 0), .ref (β 19), .ref (β 20), .int (μ 21 0), .ref (β 22), .ref (β 23), .ref (β 24)])) := ⟨_, rfl⟩
  have hw : fw_S D A s.heap f1 H locs := by rw [ef1]; exact hw
  have hR : Rm y (up2 μ 0 0 p0) β f1 := by rw [ef1]; exact hR.p0 p0
  refine lv_iload_n hx hb dX9_holds_5 rfl (lv_at hl 1 rfl) ?_
  refine lv_if_ne (tgt := 13) hx hb dX9_holds_6 (by decide) (fun c_2 => ?_) (fun c_2 => ?_)
  · refine lv_iconst (v := 0) hx hb dX9_holds_13 (by decide) ?_
    exact fw_zret hx hb hr hlocks hw (Nat.le_of_ble_eq_true rfl) (Nat.le_of_ble_eq_true rfl) (by decide +kernel) dX9_holds_14 (⟨(if_neg c_2).symm, hR⟩)
  · refine lv_iconst (v := 1) hx hb dX9_holds_9 (by decide) ?_
    refine lv_goto (tgt := 14) hx hb dX9_holds_10 (by decide) ?_
    exact fw_zret hx hb hr hlocks hw (Nat.le_of_ble_eq_true rfl) (Nat.le_of_ble_eq_true rfl) (by decide +kernel) dX9_holds_14 (⟨(if_pos c_2).symm, hR⟩)

theorem iX9_thrown_9 : ∀ w ∈ wsX90, w ∈ wsX9_thrown := by decide +kernel
set_option maxHeartbeats 4000000 in
set_option maxRecDepth 100000 in
/-- X9_thrown -/
theorem c_X9_thrown (l : Launch) (D : va_G) (A : Nat → Prop) (y : Nat → ClassId) (sa : Nat → Nat) (f : fw_F) (β : Nat → Nat) (μ : mS) (hR : Rm y μ β f) : Met l yX9_thrown wsX9_thrown ({ frames := 0, cells := 0, slots := 0, locals := 0 } : Room) (cPc D A y sa f [.ref (β 0)]) (cQi D A (fun r f1 => r = μ 0 0 ∧ f1 = f)) 0 0 A := by
  refine fw_met (by decide) rfl [.ref (β 0)] (Nat.le_of_ble_eq_true rfl) ?_
  intro p e s m args below meth c ls I hin hE hw hl
  obtain ⟨hx, hb, hr, hts, hown, hlocks, hml⟩ := I
  have hown : s.vm.findClass RX9 = some m.cls := hown
  have hl : lv_has ls 1 [(0, .ref (β 0))] := hl
  refine lv_aload_n hx hb dX9_thrown_0 rfl (lv_at hl 0 rfl) ?_
  refine fw_get hx hb hts hown hE.1.1 hw (ci := 9) (fs := [.int (μ 0 0), .int (μ 1 0), .int (μ 2 0), .ref (β 3), .ref (β 4), .ref (β 5), .ref (β 6), .ref (β 7), .ref (β 8), .ref (β 9), .ref (β 10), .ref (β 11), .ref (β 12), .int (μ 13 0), .ref (β 14), .ref (β 15), .ref (β 16), .ref (β 17), .int (μ 18 0), .ref (β 19), .ref (β 20), .int (μ 21 0), .ref (β 22), .ref (β 23), .ref (β 24)]) (v := .int (μ 0 0)) hR.o iX9_thrown_9 rfl 0 (by decide) rfl (by decide +kernel) dX9_thrown_1 ?_
  exact fw_iret hx hb hr hlocks hw (Nat.le_of_ble_eq_true rfl) (Nat.le_of_ble_eq_true rfl) dX9_thrown_4 (⟨rfl, rfl⟩)

theorem iX9_week_9 : ∀ w ∈ wsX90, w ∈ wsX9_week := by decide +kernel
set_option maxHeartbeats 4000000 in
set_option maxRecDepth 100000 in
/-- X9_week -/
theorem c_X9_week (l : Launch) (D : va_G) (A : Nat → Prop) (y : Nat → ClassId) (sa : Nat → Nat) (f : fw_F) (β : Nat → Nat) (μ : mS) (hR : Rm y μ β f) : Met l yX9_week wsX9_week ({ frames := 0, cells := 0, slots := 0, locals := 0 } : Room) (cPc D A y sa f [.ref (β 0)]) (cQi D A (fun r f1 => r = μ 1 0 ∧ Rm y (up2 μ 0 0 0) β f1)) 0 0 A := by
  refine fw_met (by decide) rfl [.ref (β 0)] (Nat.le_of_ble_eq_true rfl) ?_
  intro p e s m args below meth c ls I hin hE hw hl
  obtain ⟨hx, hb, hr, hts, hown, hlocks, hml⟩ := I
  have hown : s.vm.findClass RX9 = some m.cls := hown
  have hl : lv_has ls 1 [(0, .ref (β 0))] := hl
  refine lv_aload_n hx hb dX9_week_0 rfl (lv_at hl 0 rfl) ?_
  refine lv_iconst (v := 0) hx hb dX9_week_1 (by decide) ?_
  refine fw_put hx hb hts hown hE.1.1 hw (ci := 9) (fs := [.int (μ 0 0), .int (μ 1 0), .int (μ 2 0), .ref (β 3), .ref (β 4), .ref (β 5), .ref (β 6), .ref (β 7), .ref (β 8), .ref (β 9), .ref (β 10), .ref (β 11), .ref (β 12), .int (μ 13 0), .ref (β 14), .ref (β 15), .ref (β 16), .ref (β 17), .int (μ 18 0), .ref (β 19), .ref (β 20), .int (μ 21 0), .ref (β 22), .ref (β 23), .ref (β 24)]) (v := .int 0) hR.o iX9_week_9 tyX9 tyX9_ok nmX9 rfl 0 (by decide) rfl rfl rfl (Nat.le_of_ble_eq_true rfl) (by decide +kernel) dX9_week_2 (fun H locs hw => ?_)
  obtain ⟨f1, ef1⟩ : ∃ z, z = fw_up f (β 0) (.inr (9, [.int 0, .int (μ 1 0), .int (μ 2 0), .ref (β 3), .ref (β 4), .ref (β 5), .ref (β 6), .ref (β 7), .ref (β 8), .ref (β 9), .ref (β 10), .ref (β 11), .ref (β 12), .int (μ 13 0), .ref (β 14), .ref (β 15), .ref (β 16), .ref (β 17), .int (μ 18 0), .ref (β 19), .ref (β 20), .int (μ 21 0), .ref (β 22), .ref (β 23), .ref (β 24)])) := ⟨_, rfl⟩
  have hw : fw_S D A s.heap f1 H locs := by rw [ef1]; exact hw
  have hR : Rm y (up2 μ 0 0 0) β f1 := by rw [ef1]; exact hR.p0 0
  refine lv_aload_n hx hb dX9_week_5 rfl (lv_at hl 0 rfl) ?_
  refine fw_get hx hb hts hown hE.1.1 hw (ci := 9) (fs := [.int 0, .int (μ 1 0), .int (μ 2 0), .ref (β 3), .ref (β 4), .ref (β 5), .ref (β 6), .ref (β 7), .ref (β 8), .ref (β 9), .ref (β 10), .ref (β 11), .ref (β 12), .int (μ 13 0), .ref (β 14), .ref (β 15), .ref (β 16), .ref (β 17), .int (μ 18 0), .ref (β 19), .ref (β 20), .int (μ 21 0), .ref (β 22), .ref (β 23), .ref (β 24)]) (v := .int (μ 1 0)) hR.o iX9_week_9 rfl 1 (by decide) rfl (by decide +kernel) dX9_week_6 ?_
  exact fw_iret hx hb hr hlocks hw (Nat.le_of_ble_eq_true rfl) (Nat.le_of_ble_eq_true rfl) dX9_week_9 (⟨rfl, hR⟩)

set_option maxHeartbeats 4000000 in
set_option maxRecDepth 100000 in
/-- X9_told -/
theorem c_X9_told (l : Launch) (D : va_G) (A : Nat → Prop) (y : Nat → ClassId) (sa : Nat → Nat) (f : fw_F) (ar ln o k : Nat) (gg : Nat → Int32) (har : f ar = some (.inl (y 0, ln, .inl gg))) (hlt : 31 * o + k < ln) (hln : ln < 100000) (hb0 : ¬ gg (31 * o) = -1) : Met l yX9_told wsX9_told ({ frames := 0, cells := 0, slots := 0, locals := 0 } : Room) (cPc D A y sa f [.ref ar, .int (nI o), .int (nI k)]) (cQi D A (fun r f1 => r = nI (tld gg (31 * o + k)) ∧ f1 = f)) 0 0 A := by
  refine fw_met (by decide) rfl [.ref ar, .int (nI o), .int (nI k)] (Nat.le_of_ble_eq_true rfl) ?_
  intro p e s m args below meth c ls I hin hE hw hl
  obtain ⟨hx, hb, hr, hts, hown, hlocks, hml⟩ := I
  have hown : s.vm.findClass RX9 = some m.cls := hown
  have hl : lv_has ls 4 [(0, .ref ar), (1, .int (nI o)), (2, .int (nI k))] := hl
  refine lv_bipush (v := 31) hx hb dX9_told_0 (by decide) ?_
  refine lv_iload_n hx hb dX9_told_2 rfl (lv_at hl 1 rfl) ?_
  refine lv_imul hx hb dX9_told_3 ?_
  rw [show ((31 * (nI o)) : Int32) = (nI (31 * o)) from nI_mul (31) (o)]
  refine lv_iload_n hx hb dX9_told_4 rfl (lv_at hl 2 rfl) ?_
  refine lv_iadd hx hb dX9_told_5 ?_
  rw [show (((nI (31 * o)) + (nI k)) : Int32) = (nI (((31 * o)) + k)) from nI_add ((31 * o)) (k)]
  refine lv_istore_n (lv' := [(3, .int (nI (((31 * o)) + k))), (0, .ref ar), (1, .int (nI o)), (2, .int (nI k))]) hx hb dX9_told_6 rfl hl (by decide) rfl (fun ls hl => ?_)
  refine fw_loop 7 4 (fun r : Nat => r) (fun r => 31 * o ≤ r ∧ r < ln ∧ tld gg r = tld gg (31 * o + k)) (fun r => f) (fun r => [(3, .int (nI r)), (0, .ref ar), (1, .int (nI o)), (2, .int (nI k))]) (fun r => []) (fun r => 0) (fun r => 0) (fun i H locs ls hP hw hl IH => ?_) (31 * o + k) s.heap [] ls ⟨by omega, hlt, rfl⟩ hw (lv_sub hl [0, 1, 2, 3] rfl)
  obtain ⟨hP1, hP2, hP3⟩ := hP
  skip
  try dsimp only at hw
  try dsimp only at hl
  try dsimp only at IH
  try dsimp only at ⊢
  refine lv_aload_n hx hb dX9_told_7 rfl (lv_at hl 1 rfl) ?_
  refine lv_iload_n hx hb dX9_told_8 rfl (lv_at hl 0 rfl) ?_
  refine fw_iald hx hb hE.1.1 hw (g := gg) har 0 rfl (vp_in_nI hP2 (by omega)) dX9_told_9 ?_
  rw [nI_clamp (n := i) (by omega)]
  refine lv_iconst (v := (-1)) hx hb dX9_told_10 (by decide) ?_
  refine lv_icmp_ne (tgt := 20) hx hb dX9_told_11 (by decide) (fun c_1 => ?_) (fun c_1 => ?_)
  · refine lv_iload_n hx hb dX9_told_20 rfl (lv_at hl 0 rfl) ?_
    exact fw_iret hx hb hr hlocks hw (Nat.le_of_ble_eq_true rfl) (Nat.le_of_ble_eq_true rfl) dX9_told_21 (⟨by rw [← hP3, tld_stop c_1], rfl⟩)
  · have hi1 : 31 * o < i := by
      rcases Nat.lt_or_ge (31 * o) i with q | q
      · exact q
      · exact absurd (show gg (31 * o) = -1 by rw [show 31 * o = i by omega]; exact c_1) hb0
    have hi0 : 0 < i := by omega
    refine lv_iinc (v := (nI (i - 1))) (lv' := [(3, .int (nI (i - 1))), (0, .ref ar), (1, .int (nI o)), (2, .int (nI k))]) hx hb dX9_told_14 hl (k := 0) rfl (nI_dec (by omega)) (by decide) rfl (fun ls hl => ?_)
    refine lv_goto (tgt := 7) hx hb dX9_told_17 (by decide) ?_
    exact IH (i - 1) _ _ _ (by omega) ⟨by omega, by omega, by rw [← hP3, tld_step hi0 c_1]⟩ hw (lv_sub hl [0, 1, 2, 3] rfl)

theorem iX9_counting_9 : ∀ w ∈ wsX90, w ∈ wsX9_counting := by decide +kernel
set_option maxHeartbeats 4000000 in
set_option maxRecDepth 100000 in
/-- X9_counting -/
theorem c_X9_counting (l : Launch) (D : va_G) (A : Nat → Prop) (y : Nat → ClassId) (sa : Nat → Nat) (f : fw_F) (β : Nat → Nat) (μ : mS) (w : Nat) (hw8 : w < 8) (hR : Rm y μ β f) : Met l yX9_counting wsX9_counting ({ frames := 0, cells := 0, slots := 0, locals := 0 } : Room) (cPc D A y sa f [.ref (β 0), .int (nI w)]) (cQi D A (fun r f1 => r = nI (cnM μ w) ∧ f1 = f)) 0 0 A := by
  refine fw_met (by decide) rfl [.ref (β 0), .int (nI w)] (Nat.le_of_ble_eq_true rfl) ?_
  intro p e s m args below meth c ls I hin hE hw hl
  obtain ⟨hx, hb, hr, hts, hown, hlocks, hml⟩ := I
  have hown : s.vm.findClass RX9 = some m.cls := hown
  have hl : lv_has ls 3 [(0, .ref (β 0)), (1, .int (nI w))] := hl
  refine lv_iconst (v := 0) hx hb dX9_counting_0 (by decide) ?_
  refine lv_istore_n (lv' := [(2, .int 0), (0, .ref (β 0)), (1, .int (nI w))]) hx hb dX9_counting_1 rfl hl (by decide) rfl (fun ls hl => ?_)
  refine fw_loop 2 3 (fun r : Nat => 20 - r) (fun r => r ≤ 20 ∧ cntM (μ 7) (20 * w) (20 - r) r = cnM μ w) (fun r => f) (fun r => [(2, .int (nI r)), (0, .ref (β 0)), (1, .int (nI w))]) (fun r => []) (fun r => 0) (fun r => 0) (fun i H locs ls hP hw hl IH => ?_) 0 s.heap [] ls ⟨by omega, rfl⟩ hw (lv_sub hl [0, 1, 2] rfl)
  obtain ⟨hP1, hP2⟩ := hP
  skip
  try dsimp only at hw
  try dsimp only at hl
  try dsimp only at IH
  try dsimp only at ⊢
  refine lv_iload_n hx hb dX9_counting_2 rfl (lv_at hl 0 rfl) ?_
  refine lv_bipush (v := 20) hx hb dX9_counting_3 (by decide) ?_
  refine lv_icmp_ge (tgt := 29) hx hb dX9_counting_5 (by decide) (fun c_1 => ?_) (fun c_1 => ?_)
  · refine lv_iload_n hx hb dX9_counting_29 rfl (lv_at hl 0 rfl) ?_
    exact fw_iret hx hb hr hlocks hw (Nat.le_of_ble_eq_true rfl) (Nat.le_of_ble_eq_true rfl) dX9_counting_30 (⟨by obtain rfl := nI_eqn (n := 20) c_1 hP1 (by decide); rw [← hP2]; rfl, rfl⟩)
  · have hi20 : i < 20 := nI_hi (n := 20) c_1 (by omega)
    refine lv_aload_n hx hb dX9_counting_8 rfl (lv_at hl 1 rfl) ?_
    refine fw_get hx hb hts hown hE.1.1 hw (ci := 9) (fs := [.int (μ 0 0), .int (μ 1 0), .int (μ 2 0), .ref (β 3), .ref (β 4), .ref (β 5), .ref (β 6), .ref (β 7), .ref (β 8), .ref (β 9), .ref (β 10), .ref (β 11), .ref (β 12), .int (μ 13 0), .ref (β 14), .ref (β 15), .ref (β 16), .ref (β 17), .int (μ 18 0), .ref (β 19), .ref (β 20), .int (μ 21 0), .ref (β 22), .ref (β 23), .ref (β 24)]) (v := .ref (β 7)) hR.o iX9_counting_9 rfl 7 (by decide) rfl (by decide +kernel) dX9_counting_9 ?_
    refine lv_bipush (v := 20) hx hb dX9_counting_12 (by decide) ?_
    refine lv_iload_n hx hb dX9_counting_14 rfl (lv_at hl 2 rfl) ?_
    refine lv_imul hx hb dX9_counting_15 ?_
    rw [show ((20 * (nI w)) : Int32) = (nI (20 * w)) from nI_mul (20) (w)]
    refine lv_iload_n hx hb dX9_counting_16 rfl (lv_at hl 0 rfl) ?_
    refine lv_iadd hx hb dX9_counting_17 ?_
    rw [show (((nI (20 * w)) + (nI i)) : Int32) = (nI (((20 * w)) + i)) from nI_add ((20 * w)) (i)]
    refine fw_iald hx hb hE.1.1 hw (g := (μ 7)) hR.a7 0 rfl (vp_in_nI (by omega) (by decide)) dX9_counting_18 ?_
    rw [nI_clamp (n := (((20 * w)) + i)) (by omega)]
    refine lv_iconst (v := (-1)) hx hb dX9_counting_19 (by decide) ?_
    refine lv_icmp_eq (tgt := 29) hx hb dX9_counting_20 (by decide) (fun c_2 => ?_) (fun c_2 => ?_)
    · refine lv_iload_n hx hb dX9_counting_29 rfl (lv_at hl 0 rfl) ?_
      exact fw_iret hx hb hr hlocks hw (Nat.le_of_ble_eq_true rfl) (Nat.le_of_ble_eq_true rfl) dX9_counting_30 (⟨by rw [← hP2, show 20 - i = (20 - (i + 1)) + 1 by omega, cntM, if_pos c_2], rfl⟩)
    · refine lv_iinc (v := (nI (i + 1))) (lv' := [(2, .int (nI (i + 1))), (0, .ref (β 0)), (1, .int (nI w))]) hx hb dX9_counting_23 hl (k := 0) rfl (nI_1 (i)) (by decide) rfl (fun ls hl => ?_)
      refine lv_goto (tgt := 2) hx hb dX9_counting_26 (by decide) ?_
      exact IH (i + 1) _ _ _ (by omega) ⟨by omega, by rw [← hP2, show 20 - i = (20 - (i + 1)) + 1 by omega]; exact (if_neg c_2).symm⟩ hw (lv_sub hl [0, 1, 2] rfl)
end
section
theorem iX9_dueFor_9 : ∀ w ∈ wsX90, w ∈ wsX9_dueFor := by decide +kernel
set_option maxHeartbeats 4000000 in
set_option maxRecDepth 100000 in
/-- the reference: dueFor -/
theorem c_X9_dueFor (l : Launch) (D : va_G) (A : Nat → Prop) (y : Nat → ClassId) (sa : Nat → Nat) (f : fw_F) (β : Nat → Nat) (μ : mS) (nw wk no nt : Nat) (hI : Im μ nw wk no nt) (w k : Nat) (hw8 : w < 8) (hk31 : k < 31) (hR : Rm y μ β f) : Met l yX9_dueFor wsX9_dueFor ({ frames := 1, cells := 0, slots := 0, locals := 23 } : Room) (cPc D A y sa f [.ref (β 0), .int (nI w), .int (nI k)]) (cQi D A (fun r f1 => r = duM μ w k ∧ f1 = f)) 0 0 A := by
  refine fw_met (by decide) rfl [.ref (β 0), .int (nI w), .int (nI k)] (Nat.le_of_ble_eq_true rfl) ?_
  intro p e s m args below meth c ls I hin hE hw hl
  obtain ⟨hx, hb, hr, hts, hown, hlocks, hml⟩ := I
  have hown : s.vm.findClass RX9 = some m.cls := hown
  have hl : lv_has ls 8 [(0, .ref (β 0)), (1, .int (nI w)), (2, .int (nI k))] := hl
  obtain ⟨hI1, hI2, hI3, hI4, hI5, hI6, hI7, hI8, hI9, hI10, hI11, hI12, hI13⟩ := id hI
  refine lv_aload_n hx hb dX9_dueFor_0 rfl (lv_at hl 0 rfl) ?_
  refine fw_get hx hb hts hown hE.1.1 hw (ci := 9) (fs := [.int (μ 0 0), .int (μ 1 0), .int (μ 2 0), .ref (β 3), .ref (β 4), .ref (β 5), .ref (β 6), .ref (β 7), .ref (β 8), .ref (β 9), .ref (β 10), .ref (β 11), .ref (β 12), .int (μ 13 0), .ref (β 14), .ref (β 15), .ref (β 16), .ref (β 17), .int (μ 18 0), .ref (β 19), .ref (β 20), .int (μ 21 0), .ref (β 22), .ref (β 23), .ref (β 24)]) (v := .ref (β 4)) hR.o iX9_dueFor_9 rfl 4 (by decide) rfl (by decide +kernel) dX9_dueFor_1 ?_
  refine lv_aload_n hx hb dX9_dueFor_4 rfl (lv_at hl 0 rfl) ?_
  refine fw_get hx hb hts hown hE.1.1 hw (ci := 9) (fs := [.int (μ 0 0), .int (μ 1 0), .int (μ 2 0), .ref (β 3), .ref (β 4), .ref (β 5), .ref (β 6), .ref (β 7), .ref (β 8), .ref (β 9), .ref (β 10), .ref (β 11), .ref (β 12), .int (μ 13 0), .ref (β 14), .ref (β 15), .ref (β 16), .ref (β 17), .int (μ 18 0), .ref (β 19), .ref (β 20), .int (μ 21 0), .ref (β 22), .ref (β 23), .ref (β 24)]) (v := .ref (β 4)) hR.o iX9_dueFor_9 rfl 4 (by decide) rfl (by decide +kernel) dX9_dueFor_5 ?_
  refine lv_iload_n hx hb dX9_dueFor_8 rfl (lv_at hl 1 rfl) ?_
  refine lv_iload_n hx hb dX9_dueFor_9 rfl (lv_at hl 2 rfl) ?_
  refine fw_callSi hx hb hml hown hts hE hw [.ref (β 4), .int (nI w), .int (nI k)] [.ref (β 4)] (c_X9_told l D A y sa f (β 4) 248 w k (μ 4) hR.a4 (by omega) (by omega) (hI9 w (by omega))) (va_cwS 3 hts gX9_dueFor_X9_told rfl rfl rfl (by decide +kernel) ⟨Nat.le_of_ble_eq_true rfl, Nat.le_of_ble_eq_true rfl⟩) rfl hl.1 rfl (Nat.le_of_ble_eq_true rfl) dX9_dueFor_10 ⟨Nat.le_of_ble_eq_true rfl, Nat.le_of_ble_eq_true rfl⟩ (fun r1 f2 H locs hp3 hw => ?_)
  obtain ⟨hp3a, hp3b⟩ := hp3
  rw [hp3b] at hw
  rw [hp3a]
  have ht4 := tld_le (μ 4) (31 * w + k)
  refine fw_iald hx hb hE.1.1 hw (g := (μ 4)) hR.a4 0 rfl (vp_in_nI (by omega) (by decide)) dX9_dueFor_13 ?_
  rw [nI_clamp (n := (tld (μ 4) (31 * w + k))) (by omega)]
  obtain ⟨rk, hrk, erk⟩ : ∃ rk, rk < 3 ∧ μ 4 (tld (μ 4) (31 * w + k)) = nI rk := by
    rcases hI10 (tld (μ 4) (31 * w + k)) (by omega) with q | q
    · exact absurd q (tld_ne (hI9 w (by omega)) _ (by omega))
    · exact q
  rw [erk]
  refine lv_istore_n (lv' := [(3, .int (nI rk)), (0, .ref (β 0)), (1, .int (nI w)), (2, .int (nI k))]) hx hb dX9_dueFor_14 rfl hl (by decide) rfl (fun ls hl => ?_)
  refine lv_aload_n hx hb dX9_dueFor_15 rfl (lv_at hl 1 rfl) ?_
  refine fw_get hx hb hts hown hE.1.1 hw (ci := 9) (fs := [.int (μ 0 0), .int (μ 1 0), .int (μ 2 0), .ref (β 3), .ref (β 4), .ref (β 5), .ref (β 6), .ref (β 7), .ref (β 8), .ref (β 9), .ref (β 10), .ref (β 11), .ref (β 12), .int (μ 13 0), .ref (β 14), .ref (β 15), .ref (β 16), .ref (β 17), .int (μ 18 0), .ref (β 19), .ref (β 20), .int (μ 21 0), .ref (β 22), .ref (β 23), .ref (β 24)]) (v := .ref (β 5)) hR.o iX9_dueFor_9 rfl 5 (by decide) rfl (by decide +kernel) dX9_dueFor_16 ?_
  refine lv_iload_n hx hb dX9_dueFor_19 rfl (lv_at hl 0 rfl) ?_
  refine lv_iload_n hx hb dX9_dueFor_20 rfl (lv_at hl 3 rfl) ?_
  refine fw_callSi hx hb hml hown hts hE hw [.ref (β 5), .int (nI rk), .int (nI k)] [] (c_X9_told l D A y sa f (β 5) 93 rk k (μ 5) hR.a5 (by omega) (by omega) (hI11 rk hrk)) (va_cwS 3 hts gX9_dueFor_X9_told rfl rfl rfl (by decide +kernel) ⟨Nat.le_of_ble_eq_true rfl, Nat.le_of_ble_eq_true rfl⟩) rfl hl.1 rfl (Nat.le_of_ble_eq_true rfl) dX9_dueFor_21 ⟨Nat.le_of_ble_eq_true rfl, Nat.le_of_ble_eq_true rfl⟩ (fun r4 f5 H locs hp6 hw => ?_)
  obtain ⟨hp6a, hp6b⟩ := hp6
  rw [hp6b] at hw
  rw [hp6a]
  have ht5 := tld_le (μ 5) (31 * rk + k)
  refine lv_istore (lv' := [(4, .int (nI (tld (μ 5) (31 * rk + k)))), (3, .int (nI rk)), (0, .ref (β 0)), (1, .int (nI w)), (2, .int (nI k))]) hx hb dX9_dueFor_24 hl (by decide) rfl (fun ls hl => ?_)
  refine lv_iconst (v := 0) hx hb dX9_dueFor_26 (by decide) ?_
  refine lv_istore (lv' := [(5, .int 0), (4, .int (nI (tld (μ 5) (31 * rk + k)))), (3, .int (nI rk)), (0, .ref (β 0)), (1, .int (nI w)), (2, .int (nI k))]) hx hb dX9_dueFor_27 hl (by decide) rfl (fun ls hl => ?_)
  refine lv_iconst (v := 0) hx hb dX9_dueFor_29 (by decide) ?_
  refine lv_istore (lv' := [(6, .int 0), (5, .int 0), (4, .int (nI (tld (μ 5) (31 * rk + k)))), (3, .int (nI rk)), (0, .ref (β 0)), (1, .int (nI w)), (2, .int (nI k))]) hx hb dX9_dueFor_30 hl (by decide) rfl (fun ls hl => ?_)
  refine fw_loop 32 8 (fun r : Nat => 20 - r) (fun r => r ≤ cnM μ w) (fun r => f) (fun r => [(6, .int (nI r)), (5, .int (dsM μ w k (tld (μ 5) (31 * rk + k)) r)), (4, .int (nI (tld (μ 5) (31 * rk + k)))), (0, .ref (β 0)), (1, .int (nI w)), (2, .int (nI k))]) (fun r => []) (fun r => 0) (fun r => 0) (fun i H locs ls hP hw hl IH => ?_) 0 H locs ls (Nat.zero_le _) hw (lv_sub hl [0, 1, 2, 4, 5, 6] rfl)
  try dsimp only at hP
  try dsimp only at hw
  try dsimp only at hl
  try dsimp only at IH
  try dsimp only at ⊢
  have hcl := cnM_le μ w
  refine lv_iload hx hb dX9_dueFor_32 (lv_at hl 0 rfl) ?_
  refine lv_aload_n hx hb dX9_dueFor_34 rfl (lv_at hl 3 rfl) ?_
  refine lv_iload_n hx hb dX9_dueFor_35 rfl (lv_at hl 4 rfl) ?_
  refine fw_callVi hx hb hml hown hts hE hw [.int (nI w)] [.int (nI i)] (c_X9_counting l D A y sa f β μ w (by omega) hR) (cwV 1 hts gX9_dueFor_X9_counting rfl rfl rfl (by decide +kernel) ⟨Nat.le_of_ble_eq_true rfl, Nat.le_of_ble_eq_true rfl⟩) (ci := 9) rfl rfl hR.o rfl hl.1 rfl (Nat.le_of_ble_eq_true rfl) dX9_dueFor_36 ⟨Nat.le_of_ble_eq_true rfl, Nat.le_of_ble_eq_true rfl⟩ (fun r7 f8 H locs hp9 hw => ?_)
  obtain ⟨hp9a, hp9b⟩ := hp9
  rw [hp9b] at hw
  rw [hp9a]
  refine lv_icmp_ge (tgt := 108) hx hb dX9_dueFor_39 (by decide) (fun c_10 => ?_) (fun c_10 => ?_)
  · refine lv_iload hx hb dX9_dueFor_108 (lv_at hl 1 rfl) ?_
    exact fw_iret hx hb hr hlocks hw (Nat.le_of_ble_eq_true rfl) (Nat.le_of_ble_eq_true rfl) dX9_dueFor_110 (⟨by have q := nI_eqn c_10 hP (by omega); rw [q]; unfold duM rkM; rw [erk, nI_clamp (n := rk) (by omega)], rfl⟩)
  · have hic : i < cnM μ w := nI_hi c_10 (by omega)
    refine lv_bipush (v := 20) hx hb dX9_dueFor_42 (by decide) ?_
    refine lv_iload_n hx hb dX9_dueFor_44 rfl (lv_at hl 4 rfl) ?_
    refine lv_imul hx hb dX9_dueFor_45 ?_
    rw [show ((20 * (nI w)) : Int32) = (nI (20 * w)) from nI_mul (20) (w)]
    refine lv_iload hx hb dX9_dueFor_46 (lv_at hl 0 rfl) ?_
    refine lv_iadd hx hb dX9_dueFor_48 ?_
    rw [show (((nI (20 * w)) + (nI i)) : Int32) = (nI (((20 * w)) + i)) from nI_add ((20 * w)) (i)]
    refine lv_istore (lv' := [(7, .int (nI (((20 * w)) + i))), (6, .int (nI i)), (5, .int (dsM μ w k (tld (μ 5) (31 * rk + k)) i)), (4, .int (nI (tld (μ 5) (31 * rk + k)))), (0, .ref (β 0)), (1, .int (nI w)), (2, .int (nI k))]) hx hb dX9_dueFor_49 hl (by decide) rfl (fun ls hl => ?_)
    refine lv_iload hx hb dX9_dueFor_51 (lv_at hl 2 rfl) ?_
    refine lv_aload_n hx hb dX9_dueFor_53 rfl (lv_at hl 4 rfl) ?_
    refine fw_get hx hb hts hown hE.1.1 hw (ci := 9) (fs := [.int (μ 0 0), .int (μ 1 0), .int (μ 2 0), .ref (β 3), .ref (β 4), .ref (β 5), .ref (β 6), .ref (β 7), .ref (β 8), .ref (β 9), .ref (β 10), .ref (β 11), .ref (β 12), .int (μ 13 0), .ref (β 14), .ref (β 15), .ref (β 16), .ref (β 17), .int (μ 18 0), .ref (β 19), .ref (β 20), .int (μ 21 0), .ref (β 22), .ref (β 23), .ref (β 24)]) (v := .ref (β 7)) hR.o iX9_dueFor_9 rfl 7 (by decide) rfl (by decide +kernel) dX9_dueFor_54 ?_
    refine lv_iload hx hb dX9_dueFor_57 (lv_at hl 0 rfl) ?_
    refine fw_iald hx hb hE.1.1 hw (g := (μ 7)) hR.a7 0 rfl (vp_in_nI (by omega) (by decide)) dX9_dueFor_59 ?_
    rw [nI_clamp (n := (((20 * w)) + i)) (by omega)]
    refine lv_iload_n hx hb dX9_dueFor_60 rfl (lv_at hl 6 rfl) ?_
    refine lv_icmp_ne (tgt := 98) hx hb dX9_dueFor_61 (by decide) (fun c_11 => ?_) (fun c_11 => ?_)
    · refine lv_iconst (v := 0) hx hb dX9_dueFor_98 (by decide) ?_
      refine lv_iadd hx hb dX9_dueFor_99 ?_
      refine lv_istore (lv' := [(5, .int ((dsM μ w k (tld (μ 5) (31 * rk + k)) i) + 0)), (7, .int (nI (((20 * w)) + i))), (6, .int (nI i)), (4, .int (nI (tld (μ 5) (31 * rk + k)))), (0, .ref (β 0)), (1, .int (nI w)), (2, .int (nI k))]) hx hb dX9_dueFor_100 hl (by decide) rfl (fun ls hl => ?_)
      refine lv_iinc (v := (nI (i + 1))) (lv' := [(6, .int (nI (i + 1))), (5, .int ((dsM μ w k (tld (μ 5) (31 * rk + k)) i) + 0)), (7, .int (nI (((20 * w)) + i))), (4, .int (nI (tld (μ 5) (31 * rk + k)))), (0, .ref (β 0)), (1, .int (nI w)), (2, .int (nI k))]) hx hb dX9_dueFor_102 hl (k := 2) rfl (nI_1 (i)) (by decide) rfl (fun ls hl => ?_)
      refine lv_goto (tgt := 32) hx hb dX9_dueFor_105 (by decide) ?_
      have hds : ((dsM μ w k (tld (μ 5) (31 * rk + k)) i) + 0) = dsM μ w k (tld (μ 5) (31 * rk + k)) (i + 1) := by show _ = dsM μ w k (tld (μ 5) (31 * rk + k)) i + (if μ 7 (20 * w + i) = nI k then μ 8 (20 * w + i) * μ 5 (tld (μ 5) (31 * rk + k)) + μ 9 (20 * w + i) * μ 6 (tld (μ 5) (31 * rk + k)) else 0); rw [if_neg c_11]
      rw [hds] at hl
      exact IH (i + 1) _ _ _ (by omega) (by omega) hw (lv_sub hl [0, 1, 3, 4, 5, 6] rfl)
    · refine lv_aload_n hx hb dX9_dueFor_64 rfl (lv_at hl 4 rfl) ?_
      refine fw_get hx hb hts hown hE.1.1 hw (ci := 9) (fs := [.int (μ 0 0), .int (μ 1 0), .int (μ 2 0), .ref (β 3), .ref (β 4), .ref (β 5), .ref (β 6), .ref (β 7), .ref (β 8), .ref (β 9), .ref (β 10), .ref (β 11), .ref (β 12), .int (μ 13 0), .ref (β 14), .ref (β 15), .ref (β 16), .ref (β 17), .int (μ 18 0), .ref (β 19), .ref (β 20), .int (μ 21 0), .ref (β 22), .ref (β 23), .ref (β 24)]) (v := .ref (β 8)) hR.o iX9_dueFor_9 rfl 8 (by decide) rfl (by decide +kernel) dX9_dueFor_65 ?_
      refine lv_iload hx hb dX9_dueFor_68 (lv_at hl 0 rfl) ?_
      refine fw_iald hx hb hE.1.1 hw (g := (μ 8)) hR.a8 0 rfl (vp_in_nI (by omega) (by decide)) dX9_dueFor_70 ?_
      rw [nI_clamp (n := (((20 * w)) + i)) (by omega)]
      refine lv_aload_n hx hb dX9_dueFor_71 rfl (lv_at hl 4 rfl) ?_
      refine fw_get hx hb hts hown hE.1.1 hw (ci := 9) (fs := [.int (μ 0 0), .int (μ 1 0), .int (μ 2 0), .ref (β 3), .ref (β 4), .ref (β 5), .ref (β 6), .ref (β 7), .ref (β 8), .ref (β 9), .ref (β 10), .ref (β 11), .ref (β 12), .int (μ 13 0), .ref (β 14), .ref (β 15), .ref (β 16), .ref (β 17), .int (μ 18 0), .ref (β 19), .ref (β 20), .int (μ 21 0), .ref (β 22), .ref (β 23), .ref (β 24)]) (v := .ref (β 5)) hR.o iX9_dueFor_9 rfl 5 (by decide) rfl (by decide +kernel) dX9_dueFor_72 ?_
      refine lv_iload hx hb dX9_dueFor_75 (lv_at hl 3 rfl) ?_
      refine fw_iald hx hb hE.1.1 hw (g := (μ 5)) hR.a5 0 rfl (vp_in_nI (by omega) (by decide)) dX9_dueFor_77 ?_
      rw [nI_clamp (n := (tld (μ 5) (31 * rk + k))) (by omega)]
      refine lv_imul hx hb dX9_dueFor_78 ?_
      refine lv_aload_n hx hb dX9_dueFor_79 rfl (lv_at hl 4 rfl) ?_
      refine fw_get hx hb hts hown hE.1.1 hw (ci := 9) (fs := [.int (μ 0 0), .int (μ 1 0), .int (μ 2 0), .ref (β 3), .ref (β 4), .ref (β 5), .ref (β 6), .ref (β 7), .ref (β 8), .ref (β 9), .ref (β 10), .ref (β 11), .ref (β 12), .int (μ 13 0), .ref (β 14), .ref (β 15), .ref (β 16), .ref (β 17), .int (μ 18 0), .ref (β 19), .ref (β 20), .int (μ 21 0), .ref (β 22), .ref (β 23), .ref (β 24)]) (v := .ref (β 9)) hR.o iX9_dueFor_9 rfl 9 (by decide) rfl (by decide +kernel) dX9_dueFor_80 ?_
      refine lv_iload hx hb dX9_dueFor_83 (lv_at hl 0 rfl) ?_
      refine fw_iald hx hb hE.1.1 hw (g := (μ 9)) hR.a9 0 rfl (vp_in_nI (by omega) (by decide)) dX9_dueFor_85 ?_
      rw [nI_clamp (n := (((20 * w)) + i)) (by omega)]
      refine lv_aload_n hx hb dX9_dueFor_86 rfl (lv_at hl 4 rfl) ?_
      refine fw_get hx hb hts hown hE.1.1 hw (ci := 9) (fs := [.int (μ 0 0), .int (μ 1 0), .int (μ 2 0), .ref (β 3), .ref (β 4), .ref (β 5), .ref (β 6), .ref (β 7), .ref (β 8), .ref (β 9), .ref (β 10), .ref (β 11), .ref (β 12), .int (μ 13 0), .ref (β 14), .ref (β 15), .ref (β 16), .ref (β 17), .int (μ 18 0), .ref (β 19), .ref (β 20), .int (μ 21 0), .ref (β 22), .ref (β 23), .ref (β 24)]) (v := .ref (β 6)) hR.o iX9_dueFor_9 rfl 6 (by decide) rfl (by decide +kernel) dX9_dueFor_87 ?_
      refine lv_iload hx hb dX9_dueFor_90 (lv_at hl 3 rfl) ?_
      refine fw_iald hx hb hE.1.1 hw (g := (μ 6)) hR.a6 0 rfl (vp_in_nI (by omega) (by decide)) dX9_dueFor_92 ?_
      rw [nI_clamp (n := (tld (μ 5) (31 * rk + k))) (by omega)]
      refine lv_imul hx hb dX9_dueFor_93 ?_
      refine lv_iadd hx hb dX9_dueFor_94 ?_
      refine lv_goto (tgt := 99) hx hb dX9_dueFor_95 (by decide) ?_
      refine lv_iadd hx hb dX9_dueFor_99 ?_
      refine lv_istore (lv' := [(5, .int ((dsM μ w k (tld (μ 5) (31 * rk + k)) i) + ((((μ 8) (((20 * w)) + i)) * ((μ 5) (tld (μ 5) (31 * rk + k)))) + (((μ 9) (((20 * w)) + i)) * ((μ 6) (tld (μ 5) (31 * rk + k))))))), (7, .int (nI (((20 * w)) + i))), (6, .int (nI i)), (4, .int (nI (tld (μ 5) (31 * rk + k)))), (0, .ref (β 0)), (1, .int (nI w)), (2, .int (nI k))]) hx hb dX9_dueFor_100 hl (by decide) rfl (fun ls hl => ?_)
      refine lv_iinc (v := (nI (i + 1))) (lv' := [(6, .int (nI (i + 1))), (5, .int ((dsM μ w k (tld (μ 5) (31 * rk + k)) i) + ((((μ 8) (((20 * w)) + i)) * ((μ 5) (tld (μ 5) (31 * rk + k)))) + (((μ 9) (((20 * w)) + i)) * ((μ 6) (tld (μ 5) (31 * rk + k))))))), (7, .int (nI (((20 * w)) + i))), (4, .int (nI (tld (μ 5) (31 * rk + k)))), (0, .ref (β 0)), (1, .int (nI w)), (2, .int (nI k))]) hx hb dX9_dueFor_102 hl (k := 2) rfl (nI_1 (i)) (by decide) rfl (fun ls hl => ?_)
      refine lv_goto (tgt := 32) hx hb dX9_dueFor_105 (by decide) ?_
      have hds : ((dsM μ w k (tld (μ 5) (31 * rk + k)) i) + ((((μ 8) (((20 * w)) + i)) * ((μ 5) (tld (μ 5) (31 * rk + k)))) + (((μ 9) (((20 * w)) + i)) * ((μ 6) (tld (μ 5) (31 * rk + k)))))) = dsM μ w k (tld (μ 5) (31 * rk + k)) (i + 1) := by show _ = dsM μ w k (tld (μ 5) (31 * rk + k)) i + (if μ 7 (20 * w + i) = nI k then μ 8 (20 * w + i) * μ 5 (tld (μ 5) (31 * rk + k)) + μ 9 (20 * w + i) * μ 6 (tld (μ 5) (31 * rk + k)) else 0); rw [if_pos c_11]
      rw [hds] at hl
      exact IH (i + 1) _ _ _ (by omega) (by omega) hw (lv_sub hl [0, 1, 3, 4, 5, 6] rfl)

theorem iX9_claimOf_9 : ∀ w ∈ wsX90, w ∈ wsX9_claimOf := by decide +kernel
set_option maxHeartbeats 4000000 in
set_option maxRecDepth 100000 in
/-- the reference: claimOf -/
theorem c_X9_claimOf (l : Launch) (D : va_G) (A : Nat → Prop) (y : Nat → ClassId) (sa : Nat → Nat) (f : fw_F) (β : Nat → Nat) (μ : mS) (nw wk no nt : Nat) (hI : Im μ nw wk no nt) (w : Nat) (hw8 : w < 8) (hR : Rm y μ β f) : Met l yX9_claimOf wsX9_claimOf ({ frames := 2, cells := 0, slots := 0, locals := 50 } : Room) (cPc D A y sa f [.ref (β 0), .int (nI w)]) (cQi D A (fun r f1 => r = clM μ w ∧ f1 = f)) 0 0 A := by
  refine fw_met (by decide) rfl [.ref (β 0), .int (nI w)] (Nat.le_of_ble_eq_true rfl) ?_
  intro p e s m args below meth c ls I hin hE hw hl
  obtain ⟨hx, hb, hr, hts, hown, hlocks, hml⟩ := I
  have hown : s.vm.findClass RX9 = some m.cls := hown
  have hl : lv_has ls 4 [(0, .ref (β 0)), (1, .int (nI w))] := hl
  obtain ⟨hI1, hI2, hI3, hI4, hI5, hI6, hI7, hI8, hI9, hI10, hI11, hI12, hI13⟩ := id hI
  refine lv_iconst (v := 0) hx hb dX9_claimOf_0 (by decide) ?_
  refine lv_istore_n (lv' := [(2, .int 0), (0, .ref (β 0)), (1, .int (nI w))]) hx hb dX9_claimOf_1 rfl hl (by decide) rfl (fun ls hl => ?_)
  refine lv_iconst (v := 0) hx hb dX9_claimOf_2 (by decide) ?_
  refine lv_istore_n (lv' := [(3, .int 0), (2, .int 0), (0, .ref (β 0)), (1, .int (nI w))]) hx hb dX9_claimOf_3 rfl hl (by decide) rfl (fun ls hl => ?_)
  refine fw_loop 4 4 (fun r : Nat => 31 - r) (fun r => r ≤ wk + 1 ∧ r ≤ 31) (fun r => f) (fun r => [(3, .int (nI r)), (2, .int (csM μ w r)), (0, .ref (β 0)), (1, .int (nI w))]) (fun r => []) (fun r => 0) (fun r => 0) (fun i H locs ls hP hw hl IH => ?_) 0 s.heap [] ls ⟨by omega, by omega⟩ hw (lv_sub hl [0, 1, 2, 3] rfl)
  obtain ⟨hP1, hP2⟩ := hP
  skip
  try dsimp only at hw
  try dsimp only at hl
  try dsimp only at IH
  try dsimp only at ⊢
  refine lv_iload_n hx hb dX9_claimOf_4 rfl (lv_at hl 0 rfl) ?_
  refine lv_aload_n hx hb dX9_claimOf_5 rfl (lv_at hl 2 rfl) ?_
  refine fw_get hx hb hts hown hE.1.1 hw (ci := 9) (fs := [.int (μ 0 0), .int (μ 1 0), .int (μ 2 0), .ref (β 3), .ref (β 4), .ref (β 5), .ref (β 6), .ref (β 7), .ref (β 8), .ref (β 9), .ref (β 10), .ref (β 11), .ref (β 12), .int (μ 13 0), .ref (β 14), .ref (β 15), .ref (β 16), .ref (β 17), .int (μ 18 0), .ref (β 19), .ref (β 20), .int (μ 21 0), .ref (β 22), .ref (β 23), .ref (β 24)]) (v := .int (μ 1 0)) hR.o iX9_claimOf_9 rfl 1 (by decide) rfl (by decide +kernel) dX9_claimOf_6 ?_
  rw [hI3]
  refine lv_icmp_gt (tgt := 33) hx hb dX9_claimOf_9 (by decide) (fun c_1 => ?_) (fun c_1 => ?_)
  · have hiw : i = wk + 1 := by have q := (nI_ltI (by omega) (by omega)).mp c_1; omega
    refine lv_iload_n hx hb dX9_claimOf_33 rfl (lv_at hl 1 rfl) ?_
    refine lv_aload_n hx hb dX9_claimOf_34 rfl (lv_at hl 2 rfl) ?_
    refine fw_get hx hb hts hown hE.1.1 hw (ci := 9) (fs := [.int (μ 0 0), .int (μ 1 0), .int (μ 2 0), .ref (β 3), .ref (β 4), .ref (β 5), .ref (β 6), .ref (β 7), .ref (β 8), .ref (β 9), .ref (β 10), .ref (β 11), .ref (β 12), .int (μ 13 0), .ref (β 14), .ref (β 15), .ref (β 16), .ref (β 17), .int (μ 18 0), .ref (β 19), .ref (β 20), .int (μ 21 0), .ref (β 22), .ref (β 23), .ref (β 24)]) (v := .ref (β 10)) hR.o iX9_claimOf_9 rfl 10 (by decide) rfl (by decide +kernel) dX9_claimOf_35 ?_
    refine lv_iload_n hx hb dX9_claimOf_38 rfl (lv_at hl 3 rfl) ?_
    refine fw_iald hx hb hE.1.1 hw (g := (μ 10)) hR.a10 0 rfl (vp_in_nI (by omega) (by decide)) dX9_claimOf_39 ?_
    rw [nI_clamp (n := w) (by omega)]
    refine lv_isub hx hb dX9_claimOf_40 ?_
    exact fw_iret hx hb hr hlocks hw (Nat.le_of_ble_eq_true rfl) (Nat.le_of_ble_eq_true rfl) dX9_claimOf_41 (⟨by unfold clM; rw [hI3, nI_clamp (n := wk) (by omega), show min (wk + 1) 31 = i by omega], rfl⟩)
  · have hiw : i ≤ wk := Nat.not_lt.mp (fun q => c_1 (nI_lt q (by omega)))
    refine lv_iload_n hx hb dX9_claimOf_12 rfl (lv_at hl 0 rfl) ?_
    refine lv_bipush (v := 31) hx hb dX9_claimOf_13 (by decide) ?_
    refine lv_icmp_ge (tgt := 33) hx hb dX9_claimOf_15 (by decide) (fun c_2 => ?_) (fun c_2 => ?_)
    · have hi31 : i = 31 := nI_eqn (n := 31) c_2 hP2 (by decide)
      refine lv_iload_n hx hb dX9_claimOf_33 rfl (lv_at hl 1 rfl) ?_
      refine lv_aload_n hx hb dX9_claimOf_34 rfl (lv_at hl 2 rfl) ?_
      refine fw_get hx hb hts hown hE.1.1 hw (ci := 9) (fs := [.int (μ 0 0), .int (μ 1 0), .int (μ 2 0), .ref (β 3), .ref (β 4), .ref (β 5), .ref (β 6), .ref (β 7), .ref (β 8), .ref (β 9), .ref (β 10), .ref (β 11), .ref (β 12), .int (μ 13 0), .ref (β 14), .ref (β 15), .ref (β 16), .ref (β 17), .int (μ 18 0), .ref (β 19), .ref (β 20), .int (μ 21 0), .ref (β 22), .ref (β 23), .ref (β 24)]) (v := .ref (β 10)) hR.o iX9_claimOf_9 rfl 10 (by decide) rfl (by decide +kernel) dX9_claimOf_35 ?_
      refine lv_iload_n hx hb dX9_claimOf_38 rfl (lv_at hl 3 rfl) ?_
      refine fw_iald hx hb hE.1.1 hw (g := (μ 10)) hR.a10 0 rfl (vp_in_nI (by omega) (by decide)) dX9_claimOf_39 ?_
      rw [nI_clamp (n := w) (by omega)]
      refine lv_isub hx hb dX9_claimOf_40 ?_
      exact fw_iret hx hb hr hlocks hw (Nat.le_of_ble_eq_true rfl) (Nat.le_of_ble_eq_true rfl) dX9_claimOf_41 (⟨by unfold clM; rw [hI3, nI_clamp (n := wk) (by omega), show min (wk + 1) 31 = i by omega], rfl⟩)
    · have hi31 : i < 31 := nI_hi (n := 31) c_2 (by omega)
      refine lv_iload_n hx hb dX9_claimOf_18 rfl (lv_at hl 1 rfl) ?_
      refine lv_aload_n hx hb dX9_claimOf_19 rfl (lv_at hl 2 rfl) ?_
      refine lv_iload_n hx hb dX9_claimOf_20 rfl (lv_at hl 3 rfl) ?_
      refine lv_iload_n hx hb dX9_claimOf_21 rfl (lv_at hl 0 rfl) ?_
      refine fw_callVi hx hb hml hown hts hE hw [.int (nI w), .int (nI i)] [.int (csM μ w i)] (c_X9_dueFor l D A y sa f β μ nw wk no nt hI w i (by omega) (by omega) hR) (cwV 2 hts gX9_claimOf_X9_dueFor rfl rfl rfl (by decide +kernel) ⟨Nat.le_of_ble_eq_true rfl, Nat.le_of_ble_eq_true rfl⟩) (ci := 9) rfl rfl hR.o rfl hl.1 rfl (Nat.le_of_ble_eq_true rfl) dX9_claimOf_22 ⟨Nat.le_of_ble_eq_true rfl, Nat.le_of_ble_eq_true rfl⟩ (fun r3 f4 H locs hp5 hw => ?_)
      obtain ⟨hp5a, hp5b⟩ := hp5
      rw [hp5b] at hw
      rw [hp5a]
      refine lv_iadd hx hb dX9_claimOf_25 ?_
      refine lv_istore_n (lv' := [(2, .int ((csM μ w i) + (duM μ w i))), (3, .int (nI i)), (0, .ref (β 0)), (1, .int (nI w))]) hx hb dX9_claimOf_26 rfl hl (by decide) rfl (fun ls hl => ?_)
      refine lv_iinc (v := (nI (i + 1))) (lv' := [(3, .int (nI (i + 1))), (2, .int ((csM μ w i) + (duM μ w i))), (0, .ref (β 0)), (1, .int (nI w))]) hx hb dX9_claimOf_27 hl (k := 1) rfl (nI_1 (i)) (by decide) rfl (fun ls hl => ?_)
      refine lv_goto (tgt := 4) hx hb dX9_claimOf_30 (by decide) ?_
      exact IH (i + 1) _ _ _ (by omega) ⟨by omega, by omega⟩ hw (lv_sub hl [0, 1, 2, 3] rfl)

set_option maxHeartbeats 4000000 in
set_option maxRecDepth 100000 in
/-- the reference: acknowledged -/
theorem c_X9_acknowledged (l : Launch) (D : va_G) (A : Nat → Prop) (y : Nat → ClassId) (sa : Nat → Nat) (f : fw_F) (β : Nat → Nat) (μ : mS) (p0 : Int32) (nw wk no nt : Nat) (hI : Im μ nw wk no nt) (hR : Rm y μ β f) : Met l yX9_acknowledged wsX9_acknowledged ({ frames := 2, cells := 0, slots := 0, locals := 43 } : Room) (cPc D A y sa f [.ref (β 0), .int p0]) (cQi D A (fun r f1 => (¬ inr p0 0 (nI nw - 1) ∧ r = 0 ∧ Rm y (up2 μ 0 0 1) β f1) ∨ (∃ wv, wv < nw ∧ p0 = nI wv ∧ r = nI (cnM (up2 μ 0 0 0) wv) ∧ Rm y (up2 μ 0 0 0) β f1))) 0 0 A := by
  refine fw_met (by decide) rfl [.ref (β 0), .int p0] (Nat.le_of_ble_eq_true rfl) ?_
  intro p e s m args below meth c ls I hin hE hw hl
  obtain ⟨hx, hb, hr, hts, hown, hlocks, hml⟩ := I
  have hown : s.vm.findClass RX9 = some m.cls := hown
  have hl : lv_has ls 2 [(0, .ref (β 0)), (1, .int p0)] := hl
  obtain ⟨hI1, hI2, hI3, hI4, hI5, hI6, hI7, hI8, hI9, hI10, hI11, hI12, hI13⟩ := id hI
  refine lv_aload_n hx hb dX9_acknowledged_0 rfl (lv_at hl 0 rfl) ?_
  refine lv_aload_n hx hb dX9_acknowledged_1 rfl (lv_at hl 0 rfl) ?_
  refine lv_iload_n hx hb dX9_acknowledged_2 rfl (lv_at hl 1 rfl) ?_
  refine fw_callVi hx hb hml hown hts hE hw [.int p0] [.ref (β 0)] (c_X9_isWorker l D A y sa f β μ p0 hR) (cwV 1 hts gX9_acknowledged_X9_isWorker rfl rfl rfl (by decide +kernel) ⟨Nat.le_of_ble_eq_true rfl, Nat.le_of_ble_eq_true rfl⟩) (ci := 9) rfl rfl hR.o rfl hl.1 rfl (Nat.le_of_ble_eq_true rfl) dX9_acknowledged_3 ⟨Nat.le_of_ble_eq_true rfl, Nat.le_of_ble_eq_true rfl⟩ (fun r1 f2 H locs hp3 hw => ?_)
  obtain ⟨hp3a, hp3b⟩ := hp3
  rw [hp3b] at hw
  have hp3c : r1 = (if inr p0 0 (nI nw - 1) then 1 else 0) := hp3a.trans (by rw [show μ 2 0 = nI nw from hI1])
  rw [hp3c]
  refine lv_if_eq (tgt := 13) hx hb dX9_acknowledged_6 (by decide) (fun c_4 => ?_) (fun c_4 => ?_)
  · have c_4 := fw_b0 c_4
    refine lv_iconst (v := 1) hx hb dX9_acknowledged_13 (by decide) ?_
    refine fw_callVi hx hb hml hown hts hE hw [.int 1] [] (c_X9_holds l D A y sa f β μ 1 hR) (cwV 1 hts gX9_acknowledged_X9_holds rfl rfl rfl (by decide +kernel) ⟨Nat.le_of_ble_eq_true rfl, Nat.le_of_ble_eq_true rfl⟩) (ci := 9) rfl rfl hR.o rfl hl.1 rfl (Nat.le_of_ble_eq_true rfl) dX9_acknowledged_14 ⟨Nat.le_of_ble_eq_true rfl, Nat.le_of_ble_eq_true rfl⟩ (fun r5 f6 H locs hp7 hw => ?_)
    obtain ⟨hp7a, hR⟩ := hp7
    rw [if_neg (by decide)] at hp7a
    rw [hp7a]
    refine lv_if_eq (tgt := 28) hx hb dX9_acknowledged_17 (by decide) (fun _ => ?_) (fun c_8 => absurd c_8 (by decide))
    refine lv_iconst (v := 0) hx hb dX9_acknowledged_28 (by decide) ?_
    exact fw_iret hx hb hr hlocks hw (Nat.le_of_ble_eq_true rfl) (Nat.le_of_ble_eq_true rfl) dX9_acknowledged_29 (Or.inl (⟨(by first | assumption | exact fun z => absurd z.1 (by assumption) | exact fun z => absurd z.2.1 (by assumption) | exact fun z => absurd z.2.2.1 (by assumption) | exact fun z => absurd z.2.2.2 (by assumption) | exact fun z => absurd z.2 (by assumption) | exact fun z => absurd z.2.2 (by assumption)), rfl, hR⟩))
  · have c_4 := fw_b1 c_4
    refine lv_iconst (v := 0) hx hb dX9_acknowledged_9 (by decide) ?_
    refine lv_goto (tgt := 14) hx hb dX9_acknowledged_10 (by decide) ?_
    refine fw_callVi hx hb hml hown hts hE hw [.int 0] [] (c_X9_holds l D A y sa f β μ 0 hR) (cwV 1 hts gX9_acknowledged_X9_holds rfl rfl rfl (by decide +kernel) ⟨Nat.le_of_ble_eq_true rfl, Nat.le_of_ble_eq_true rfl⟩) (ci := 9) rfl rfl hR.o rfl hl.1 rfl (Nat.le_of_ble_eq_true rfl) dX9_acknowledged_14 ⟨Nat.le_of_ble_eq_true rfl, Nat.le_of_ble_eq_true rfl⟩ (fun r9 f10 H locs hp11 hw => ?_)
    obtain ⟨hp11a, hR⟩ := hp11
    rw [if_pos rfl] at hp11a
    rw [hp11a]
    refine lv_if_eq (tgt := 28) hx hb dX9_acknowledged_17 (by decide) (fun c_12 => absurd c_12 (by decide)) (fun _ => ?_)
    obtain ⟨wv, hwv, rfl⟩ := inr_w (n := nw) (by omega) c_4
    refine lv_aload_n hx hb dX9_acknowledged_20 rfl (lv_at hl 0 rfl) ?_
    refine lv_iload_n hx hb dX9_acknowledged_21 rfl (lv_at hl 1 rfl) ?_
    refine fw_callVi hx hb hml hown hts hE hw [.int (nI wv)] [] (c_X9_counting l D A y sa f10 β (up2 μ 0 0 0) wv (by omega) hR) (cwV 1 hts gX9_acknowledged_X9_counting rfl rfl rfl (by decide +kernel) ⟨Nat.le_of_ble_eq_true rfl, Nat.le_of_ble_eq_true rfl⟩) (ci := 9) rfl rfl hR.o rfl hl.1 rfl (Nat.le_of_ble_eq_true rfl) dX9_acknowledged_22 ⟨Nat.le_of_ble_eq_true rfl, Nat.le_of_ble_eq_true rfl⟩ (fun r13 f14 H locs hp15 hw => ?_)
    obtain ⟨hp15a, hp15b⟩ := hp15
    rw [hp15b] at hw
    rw [hp15a]
    refine lv_goto (tgt := 29) hx hb dX9_acknowledged_25 (by decide) ?_
    exact fw_iret hx hb hr hlocks hw (Nat.le_of_ble_eq_true rfl) (Nat.le_of_ble_eq_true rfl) dX9_acknowledged_29 (Or.inr (⟨wv, hwv, rfl, rfl, hR⟩))

set_option maxHeartbeats 4000000 in
set_option maxRecDepth 100000 in
/-- the reference: claim -/
theorem c_X9_claim (l : Launch) (D : va_G) (A : Nat → Prop) (y : Nat → ClassId) (sa : Nat → Nat) (f : fw_F) (β : Nat → Nat) (μ : mS) (p0 : Int32) (nw wk no nt : Nat) (hI : Im μ nw wk no nt) (hR : Rm y μ β f) : Met l yX9_claim wsX9_claim ({ frames := 3, cells := 0, slots := 0, locals := 73 } : Room) (cPc D A y sa f [.ref (β 0), .int p0]) (cQi D A (fun r f1 => (¬ inr p0 0 (nI nw - 1) ∧ r = 0 ∧ Rm y (up2 μ 0 0 1) β f1) ∨ (∃ wv, wv < nw ∧ p0 = nI wv ∧ r = clM (up2 μ 0 0 0) wv ∧ Rm y (up2 μ 0 0 0) β f1))) 0 0 A := by
  refine fw_met (by decide) rfl [.ref (β 0), .int p0] (Nat.le_of_ble_eq_true rfl) ?_
  intro p e s m args below meth c ls I hin hE hw hl
  obtain ⟨hx, hb, hr, hts, hown, hlocks, hml⟩ := I
  have hown : s.vm.findClass RX9 = some m.cls := hown
  have hl : lv_has ls 2 [(0, .ref (β 0)), (1, .int p0)] := hl
  obtain ⟨hI1, hI2, hI3, hI4, hI5, hI6, hI7, hI8, hI9, hI10, hI11, hI12, hI13⟩ := id hI
  refine lv_aload_n hx hb dX9_claim_0 rfl (lv_at hl 0 rfl) ?_
  refine lv_aload_n hx hb dX9_claim_1 rfl (lv_at hl 0 rfl) ?_
  refine lv_iload_n hx hb dX9_claim_2 rfl (lv_at hl 1 rfl) ?_
  refine fw_callVi hx hb hml hown hts hE hw [.int p0] [.ref (β 0)] (c_X9_isWorker l D A y sa f β μ p0 hR) (cwV 1 hts gX9_claim_X9_isWorker rfl rfl rfl (by decide +kernel) ⟨Nat.le_of_ble_eq_true rfl, Nat.le_of_ble_eq_true rfl⟩) (ci := 9) rfl rfl hR.o rfl hl.1 rfl (Nat.le_of_ble_eq_true rfl) dX9_claim_3 ⟨Nat.le_of_ble_eq_true rfl, Nat.le_of_ble_eq_true rfl⟩ (fun r1 f2 H locs hp3 hw => ?_)
  obtain ⟨hp3a, hp3b⟩ := hp3
  rw [hp3b] at hw
  have hp3c : r1 = (if inr p0 0 (nI nw - 1) then 1 else 0) := hp3a.trans (by rw [show μ 2 0 = nI nw from hI1])
  rw [hp3c]
  refine lv_if_eq (tgt := 13) hx hb dX9_claim_6 (by decide) (fun c_4 => ?_) (fun c_4 => ?_)
  · have c_4 := fw_b0 c_4
    refine lv_iconst (v := 1) hx hb dX9_claim_13 (by decide) ?_
    refine fw_callVi hx hb hml hown hts hE hw [.int 1] [] (c_X9_holds l D A y sa f β μ 1 hR) (cwV 1 hts gX9_claim_X9_holds rfl rfl rfl (by decide +kernel) ⟨Nat.le_of_ble_eq_true rfl, Nat.le_of_ble_eq_true rfl⟩) (ci := 9) rfl rfl hR.o rfl hl.1 rfl (Nat.le_of_ble_eq_true rfl) dX9_claim_14 ⟨Nat.le_of_ble_eq_true rfl, Nat.le_of_ble_eq_true rfl⟩ (fun r5 f6 H locs hp7 hw => ?_)
    obtain ⟨hp7a, hR⟩ := hp7
    rw [if_neg (by decide)] at hp7a
    rw [hp7a]
    refine lv_if_eq (tgt := 28) hx hb dX9_claim_17 (by decide) (fun _ => ?_) (fun c_8 => absurd c_8 (by decide))
    refine lv_iconst (v := 0) hx hb dX9_claim_28 (by decide) ?_
    exact fw_iret hx hb hr hlocks hw (Nat.le_of_ble_eq_true rfl) (Nat.le_of_ble_eq_true rfl) dX9_claim_29 (Or.inl (⟨(by first | assumption | exact fun z => absurd z.1 (by assumption) | exact fun z => absurd z.2.1 (by assumption) | exact fun z => absurd z.2.2.1 (by assumption) | exact fun z => absurd z.2.2.2 (by assumption) | exact fun z => absurd z.2 (by assumption) | exact fun z => absurd z.2.2 (by assumption)), rfl, hR⟩))
  · have c_4 := fw_b1 c_4
    refine lv_iconst (v := 0) hx hb dX9_claim_9 (by decide) ?_
    refine lv_goto (tgt := 14) hx hb dX9_claim_10 (by decide) ?_
    refine fw_callVi hx hb hml hown hts hE hw [.int 0] [] (c_X9_holds l D A y sa f β μ 0 hR) (cwV 1 hts gX9_claim_X9_holds rfl rfl rfl (by decide +kernel) ⟨Nat.le_of_ble_eq_true rfl, Nat.le_of_ble_eq_true rfl⟩) (ci := 9) rfl rfl hR.o rfl hl.1 rfl (Nat.le_of_ble_eq_true rfl) dX9_claim_14 ⟨Nat.le_of_ble_eq_true rfl, Nat.le_of_ble_eq_true rfl⟩ (fun r9 f10 H locs hp11 hw => ?_)
    obtain ⟨hp11a, hR⟩ := hp11
    rw [if_pos rfl] at hp11a
    rw [hp11a]
    refine lv_if_eq (tgt := 28) hx hb dX9_claim_17 (by decide) (fun c_12 => absurd c_12 (by decide)) (fun _ => ?_)
    obtain ⟨wv, hwv, rfl⟩ := inr_w (n := nw) (by omega) c_4
    refine lv_aload_n hx hb dX9_claim_20 rfl (lv_at hl 0 rfl) ?_
    refine lv_iload_n hx hb dX9_claim_21 rfl (lv_at hl 1 rfl) ?_
    refine fw_callVi hx hb hml hown hts hE hw [.int (nI wv)] [] (c_X9_claimOf l D A y sa f10 β (up2 μ 0 0 0) nw wk no nt hI wv (by omega) hR) (cwV 1 hts gX9_claim_X9_claimOf rfl rfl rfl (by decide +kernel) ⟨Nat.le_of_ble_eq_true rfl, Nat.le_of_ble_eq_true rfl⟩) (ci := 9) rfl rfl hR.o rfl hl.1 rfl (Nat.le_of_ble_eq_true rfl) dX9_claim_22 ⟨Nat.le_of_ble_eq_true rfl, Nat.le_of_ble_eq_true rfl⟩ (fun r13 f14 H locs hp15 hw => ?_)
    obtain ⟨hp15a, hp15b⟩ := hp15
    rw [hp15b] at hw
    rw [hp15a]
    refine lv_goto (tgt := 29) hx hb dX9_claim_25 (by decide) ?_
    exact fw_iret hx hb hr hlocks hw (Nat.le_of_ble_eq_true rfl) (Nat.le_of_ble_eq_true rfl) dX9_claim_29 (Or.inr (⟨wv, hwv, rfl, rfl, hR⟩))

set_option maxHeartbeats 4000000 in
set_option maxRecDepth 100000 in
/-- the reference: claimBySlips -/
theorem c_X9_claimBySlips (l : Launch) (D : va_G) (A : Nat → Prop) (y : Nat → ClassId) (sa : Nat → Nat) (f : fw_F) (β : Nat → Nat) (μ : mS) (p0 : Int32) (nw wk no nt : Nat) (hI : Im μ nw wk no nt) (hR : Rm y μ β f) : Met l yX9_claimBySlips wsX9_claimBySlips ({ frames := 3, cells := 0, slots := 0, locals := 73 } : Room) (cPc D A y sa f [.ref (β 0), .int p0]) (cQi D A (fun r f1 => (¬ inr p0 0 (nI nw - 1) ∧ r = 0 ∧ Rm y (up2 μ 0 0 1) β f1) ∨ (∃ wv, wv < nw ∧ p0 = nI wv ∧ r = clM (up2 μ 0 0 0) wv ∧ Rm y (up2 μ 0 0 0) β f1))) 0 0 A := by
  refine fw_met (by decide) rfl [.ref (β 0), .int p0] (Nat.le_of_ble_eq_true rfl) ?_
  intro p e s m args below meth c ls I hin hE hw hl
  obtain ⟨hx, hb, hr, hts, hown, hlocks, hml⟩ := I
  have hown : s.vm.findClass RX9 = some m.cls := hown
  have hl : lv_has ls 2 [(0, .ref (β 0)), (1, .int p0)] := hl
  obtain ⟨hI1, hI2, hI3, hI4, hI5, hI6, hI7, hI8, hI9, hI10, hI11, hI12, hI13⟩ := id hI
  refine lv_aload_n hx hb dX9_claimBySlips_0 rfl (lv_at hl 0 rfl) ?_
  refine lv_aload_n hx hb dX9_claimBySlips_1 rfl (lv_at hl 0 rfl) ?_
  refine lv_iload_n hx hb dX9_claimBySlips_2 rfl (lv_at hl 1 rfl) ?_
  refine fw_callVi hx hb hml hown hts hE hw [.int p0] [.ref (β 0)] (c_X9_isWorker l D A y sa f β μ p0 hR) (cwV 1 hts gX9_claimBySlips_X9_isWorker rfl rfl rfl (by decide +kernel) ⟨Nat.le_of_ble_eq_true rfl, Nat.le_of_ble_eq_true rfl⟩) (ci := 9) rfl rfl hR.o rfl hl.1 rfl (Nat.le_of_ble_eq_true rfl) dX9_claimBySlips_3 ⟨Nat.le_of_ble_eq_true rfl, Nat.le_of_ble_eq_true rfl⟩ (fun r1 f2 H locs hp3 hw => ?_)
  obtain ⟨hp3a, hp3b⟩ := hp3
  rw [hp3b] at hw
  have hp3c : r1 = (if inr p0 0 (nI nw - 1) then 1 else 0) := hp3a.trans (by rw [show μ 2 0 = nI nw from hI1])
  rw [hp3c]
  refine lv_if_eq (tgt := 13) hx hb dX9_claimBySlips_6 (by decide) (fun c_4 => ?_) (fun c_4 => ?_)
  · have c_4 := fw_b0 c_4
    refine lv_iconst (v := 1) hx hb dX9_claimBySlips_13 (by decide) ?_
    refine fw_callVi hx hb hml hown hts hE hw [.int 1] [] (c_X9_holds l D A y sa f β μ 1 hR) (cwV 1 hts gX9_claimBySlips_X9_holds rfl rfl rfl (by decide +kernel) ⟨Nat.le_of_ble_eq_true rfl, Nat.le_of_ble_eq_true rfl⟩) (ci := 9) rfl rfl hR.o rfl hl.1 rfl (Nat.le_of_ble_eq_true rfl) dX9_claimBySlips_14 ⟨Nat.le_of_ble_eq_true rfl, Nat.le_of_ble_eq_true rfl⟩ (fun r5 f6 H locs hp7 hw => ?_)
    obtain ⟨hp7a, hR⟩ := hp7
    rw [if_neg (by decide)] at hp7a
    rw [hp7a]
    refine lv_if_eq (tgt := 28) hx hb dX9_claimBySlips_17 (by decide) (fun _ => ?_) (fun c_8 => absurd c_8 (by decide))
    refine lv_iconst (v := 0) hx hb dX9_claimBySlips_28 (by decide) ?_
    exact fw_iret hx hb hr hlocks hw (Nat.le_of_ble_eq_true rfl) (Nat.le_of_ble_eq_true rfl) dX9_claimBySlips_29 (Or.inl (⟨(by first | assumption | exact fun z => absurd z.1 (by assumption) | exact fun z => absurd z.2.1 (by assumption) | exact fun z => absurd z.2.2.1 (by assumption) | exact fun z => absurd z.2.2.2 (by assumption) | exact fun z => absurd z.2 (by assumption) | exact fun z => absurd z.2.2 (by assumption)), rfl, hR⟩))
  · have c_4 := fw_b1 c_4
    refine lv_iconst (v := 0) hx hb dX9_claimBySlips_9 (by decide) ?_
    refine lv_goto (tgt := 14) hx hb dX9_claimBySlips_10 (by decide) ?_
    refine fw_callVi hx hb hml hown hts hE hw [.int 0] [] (c_X9_holds l D A y sa f β μ 0 hR) (cwV 1 hts gX9_claimBySlips_X9_holds rfl rfl rfl (by decide +kernel) ⟨Nat.le_of_ble_eq_true rfl, Nat.le_of_ble_eq_true rfl⟩) (ci := 9) rfl rfl hR.o rfl hl.1 rfl (Nat.le_of_ble_eq_true rfl) dX9_claimBySlips_14 ⟨Nat.le_of_ble_eq_true rfl, Nat.le_of_ble_eq_true rfl⟩ (fun r9 f10 H locs hp11 hw => ?_)
    obtain ⟨hp11a, hR⟩ := hp11
    rw [if_pos rfl] at hp11a
    rw [hp11a]
    refine lv_if_eq (tgt := 28) hx hb dX9_claimBySlips_17 (by decide) (fun c_12 => absurd c_12 (by decide)) (fun _ => ?_)
    obtain ⟨wv, hwv, rfl⟩ := inr_w (n := nw) (by omega) c_4
    refine lv_aload_n hx hb dX9_claimBySlips_20 rfl (lv_at hl 0 rfl) ?_
    refine lv_iload_n hx hb dX9_claimBySlips_21 rfl (lv_at hl 1 rfl) ?_
    refine fw_callVi hx hb hml hown hts hE hw [.int (nI wv)] [] (c_X9_claimOf l D A y sa f10 β (up2 μ 0 0 0) nw wk no nt hI wv (by omega) hR) (cwV 1 hts gX9_claimBySlips_X9_claimOf rfl rfl rfl (by decide +kernel) ⟨Nat.le_of_ble_eq_true rfl, Nat.le_of_ble_eq_true rfl⟩) (ci := 9) rfl rfl hR.o rfl hl.1 rfl (Nat.le_of_ble_eq_true rfl) dX9_claimBySlips_22 ⟨Nat.le_of_ble_eq_true rfl, Nat.le_of_ble_eq_true rfl⟩ (fun r13 f14 H locs hp15 hw => ?_)
    obtain ⟨hp15a, hp15b⟩ := hp15
    rw [hp15b] at hw
    rw [hp15a]
    refine lv_goto (tgt := 29) hx hb dX9_claimBySlips_25 (by decide) ?_
    exact fw_iret hx hb hr hlocks hw (Nat.le_of_ble_eq_true rfl) (Nat.le_of_ble_eq_true rfl) dX9_claimBySlips_29 (Or.inr (⟨wv, hwv, rfl, rfl, hR⟩))

theorem iX9_toTakeBack_9 : ∀ w ∈ wsX90, w ∈ wsX9_toTakeBack := by decide +kernel
set_option maxHeartbeats 4000000 in
set_option maxRecDepth 100000 in
/-- the reference: toTakeBack -/
theorem c_X9_toTakeBack (l : Launch) (D : va_G) (A : Nat → Prop) (y : Nat → ClassId) (sa : Nat → Nat) (f : fw_F) (β : Nat → Nat) (μ : mS) (p0 : Int32) (nw wk no nt : Nat) (hI : Im μ nw wk no nt) (hR : Rm y μ β f) : Met l yX9_toTakeBack wsX9_toTakeBack ({ frames := 2, cells := 0, slots := 0, locals := 43 } : Room) (cPc D A y sa f [.ref (β 0), .int p0]) (cQi D A (fun r f1 => (¬ inr p0 0 (nI nw - 1) ∧ r = 0 ∧ Rm y (up2 μ 0 0 1) β f1) ∨ (∃ wv, wv < nw ∧ p0 = nI wv ∧ r = μ 11 wv ∧ Rm y (up2 μ 0 0 0) β f1))) 0 0 A := by
  refine fw_met (by decide) rfl [.ref (β 0), .int p0] (Nat.le_of_ble_eq_true rfl) ?_
  intro p e s m args below meth c ls I hin hE hw hl
  obtain ⟨hx, hb, hr, hts, hown, hlocks, hml⟩ := I
  have hown : s.vm.findClass RX9 = some m.cls := hown
  have hl : lv_has ls 2 [(0, .ref (β 0)), (1, .int p0)] := hl
  obtain ⟨hI1, hI2, hI3, hI4, hI5, hI6, hI7, hI8, hI9, hI10, hI11, hI12, hI13⟩ := id hI
  refine lv_aload_n hx hb dX9_toTakeBack_0 rfl (lv_at hl 0 rfl) ?_
  refine lv_aload_n hx hb dX9_toTakeBack_1 rfl (lv_at hl 0 rfl) ?_
  refine lv_iload_n hx hb dX9_toTakeBack_2 rfl (lv_at hl 1 rfl) ?_
  refine fw_callVi hx hb hml hown hts hE hw [.int p0] [.ref (β 0)] (c_X9_isWorker l D A y sa f β μ p0 hR) (cwV 1 hts gX9_toTakeBack_X9_isWorker rfl rfl rfl (by decide +kernel) ⟨Nat.le_of_ble_eq_true rfl, Nat.le_of_ble_eq_true rfl⟩) (ci := 9) rfl rfl hR.o rfl hl.1 rfl (Nat.le_of_ble_eq_true rfl) dX9_toTakeBack_3 ⟨Nat.le_of_ble_eq_true rfl, Nat.le_of_ble_eq_true rfl⟩ (fun r1 f2 H locs hp3 hw => ?_)
  obtain ⟨hp3a, hp3b⟩ := hp3
  rw [hp3b] at hw
  have hp3c : r1 = (if inr p0 0 (nI nw - 1) then 1 else 0) := hp3a.trans (by rw [show μ 2 0 = nI nw from hI1])
  rw [hp3c]
  refine lv_if_eq (tgt := 13) hx hb dX9_toTakeBack_6 (by decide) (fun c_4 => ?_) (fun c_4 => ?_)
  · have c_4 := fw_b0 c_4
    refine lv_iconst (v := 1) hx hb dX9_toTakeBack_13 (by decide) ?_
    refine fw_callVi hx hb hml hown hts hE hw [.int 1] [] (c_X9_holds l D A y sa f β μ 1 hR) (cwV 1 hts gX9_toTakeBack_X9_holds rfl rfl rfl (by decide +kernel) ⟨Nat.le_of_ble_eq_true rfl, Nat.le_of_ble_eq_true rfl⟩) (ci := 9) rfl rfl hR.o rfl hl.1 rfl (Nat.le_of_ble_eq_true rfl) dX9_toTakeBack_14 ⟨Nat.le_of_ble_eq_true rfl, Nat.le_of_ble_eq_true rfl⟩ (fun r5 f6 H locs hp7 hw => ?_)
    obtain ⟨hp7a, hR⟩ := hp7
    rw [if_neg (by decide)] at hp7a
    rw [hp7a]
    refine lv_if_eq (tgt := 29) hx hb dX9_toTakeBack_17 (by decide) (fun _ => ?_) (fun c_8 => absurd c_8 (by decide))
    refine lv_iconst (v := 0) hx hb dX9_toTakeBack_29 (by decide) ?_
    exact fw_iret hx hb hr hlocks hw (Nat.le_of_ble_eq_true rfl) (Nat.le_of_ble_eq_true rfl) dX9_toTakeBack_30 (Or.inl (⟨(by first | assumption | exact fun z => absurd z.1 (by assumption) | exact fun z => absurd z.2.1 (by assumption) | exact fun z => absurd z.2.2.1 (by assumption) | exact fun z => absurd z.2.2.2 (by assumption) | exact fun z => absurd z.2 (by assumption) | exact fun z => absurd z.2.2 (by assumption)), rfl, hR⟩))
  · have c_4 := fw_b1 c_4
    refine lv_iconst (v := 0) hx hb dX9_toTakeBack_9 (by decide) ?_
    refine lv_goto (tgt := 14) hx hb dX9_toTakeBack_10 (by decide) ?_
    refine fw_callVi hx hb hml hown hts hE hw [.int 0] [] (c_X9_holds l D A y sa f β μ 0 hR) (cwV 1 hts gX9_toTakeBack_X9_holds rfl rfl rfl (by decide +kernel) ⟨Nat.le_of_ble_eq_true rfl, Nat.le_of_ble_eq_true rfl⟩) (ci := 9) rfl rfl hR.o rfl hl.1 rfl (Nat.le_of_ble_eq_true rfl) dX9_toTakeBack_14 ⟨Nat.le_of_ble_eq_true rfl, Nat.le_of_ble_eq_true rfl⟩ (fun r9 f10 H locs hp11 hw => ?_)
    obtain ⟨hp11a, hR⟩ := hp11
    rw [if_pos rfl] at hp11a
    rw [hp11a]
    refine lv_if_eq (tgt := 29) hx hb dX9_toTakeBack_17 (by decide) (fun c_12 => absurd c_12 (by decide)) (fun _ => ?_)
    obtain ⟨wv, hwv, rfl⟩ := inr_w (n := nw) (by omega) c_4
    refine lv_aload_n hx hb dX9_toTakeBack_20 rfl (lv_at hl 0 rfl) ?_
    refine fw_get hx hb hts hown hE.1.1 hw (ci := 9) (fs := [.int 0, .int (μ 1 0), .int (μ 2 0), .ref (β 3), .ref (β 4), .ref (β 5), .ref (β 6), .ref (β 7), .ref (β 8), .ref (β 9), .ref (β 10), .ref (β 11), .ref (β 12), .int (μ 13 0), .ref (β 14), .ref (β 15), .ref (β 16), .ref (β 17), .int (μ 18 0), .ref (β 19), .ref (β 20), .int (μ 21 0), .ref (β 22), .ref (β 23), .ref (β 24)]) (v := .ref (β 11)) hR.o iX9_toTakeBack_9 rfl 11 (by decide) rfl (by decide +kernel) dX9_toTakeBack_21 ?_
    refine lv_iload_n hx hb dX9_toTakeBack_24 rfl (lv_at hl 1 rfl) ?_
    refine fw_iald hx hb hE.1.1 hw (g := (μ 11)) hR.a11 0 rfl (vp_in_nI (by omega) (by decide)) dX9_toTakeBack_25 ?_
    rw [nI_clamp (n := wv) (by omega)]
    refine lv_goto (tgt := 30) hx hb dX9_toTakeBack_26 (by decide) ?_
    exact fw_iret hx hb hr hlocks hw (Nat.le_of_ble_eq_true rfl) (Nat.le_of_ble_eq_true rfl) dX9_toTakeBack_30 (Or.inr (⟨wv, hwv, rfl, rfl, hR⟩))

set_option maxHeartbeats 4000000 in
set_option maxRecDepth 100000 in
/-- the reference: due -/
theorem c_X9_due (l : Launch) (D : va_G) (A : Nat → Prop) (y : Nat → ClassId) (sa : Nat → Nat) (f : fw_F) (β : Nat → Nat) (μ : mS) (p0 p1 : Int32) (nw wk no nt : Nat) (hI : Im μ nw wk no nt) (hR : Rm y μ β f) : Met l yX9_due wsX9_due ({ frames := 2, cells := 0, slots := 0, locals := 50 } : Room) (cPc D A y sa f [.ref (β 0), .int p0, .int p1]) (cQi D A (fun r f1 => (¬ inr p0 0 (nI nw - 1) ∧ r = 0 ∧ Rm y (up2 μ 0 0 1) β f1) ∨ (inr p0 0 (nI nw - 1) ∧ ¬ inr p1 0 30 ∧ r = 0 ∧ Rm y (up2 μ 0 0 2) β f1) ∨ (∃ wv kv, wv < nw ∧ kv ≤ 30 ∧ p0 = nI wv ∧ p1 = nI kv ∧ r = duM (up2 μ 0 0 0) wv kv ∧ Rm y (up2 μ 0 0 0) β f1))) 0 0 A := by
  refine fw_met (by decide) rfl [.ref (β 0), .int p0, .int p1] (Nat.le_of_ble_eq_true rfl) ?_
  intro p e s m args below meth c ls I hin hE hw hl
  obtain ⟨hx, hb, hr, hts, hown, hlocks, hml⟩ := I
  have hown : s.vm.findClass RX9 = some m.cls := hown
  have hl : lv_has ls 3 [(0, .ref (β 0)), (1, .int p0), (2, .int p1)] := hl
  obtain ⟨hI1, hI2, hI3, hI4, hI5, hI6, hI7, hI8, hI9, hI10, hI11, hI12, hI13⟩ := id hI
  refine lv_aload_n hx hb dX9_due_0 rfl (lv_at hl 0 rfl) ?_
  refine lv_aload_n hx hb dX9_due_1 rfl (lv_at hl 0 rfl) ?_
  refine lv_iload_n hx hb dX9_due_2 rfl (lv_at hl 1 rfl) ?_
  refine fw_callVi hx hb hml hown hts hE hw [.int p0] [.ref (β 0)] (c_X9_isWorker l D A y sa f β μ p0 hR) (cwV 1 hts gX9_due_X9_isWorker rfl rfl rfl (by decide +kernel) ⟨Nat.le_of_ble_eq_true rfl, Nat.le_of_ble_eq_true rfl⟩) (ci := 9) rfl rfl hR.o rfl hl.1 rfl (Nat.le_of_ble_eq_true rfl) dX9_due_3 ⟨Nat.le_of_ble_eq_true rfl, Nat.le_of_ble_eq_true rfl⟩ (fun r1 f2 H locs hp3 hw => ?_)
  obtain ⟨hp3a, hp3b⟩ := hp3
  rw [hp3b] at hw
  have hp3c : r1 = (if inr p0 0 (nI nw - 1) then 1 else 0) := hp3a.trans (by rw [show μ 2 0 = nI nw from hI1])
  rw [hp3c]
  refine lv_if_ne (tgt := 13) hx hb dX9_due_6 (by decide) (fun c_4 => ?_) (fun c_4 => ?_)
  · have c_4 := fw_b1 c_4
    refine lv_iload_n hx hb dX9_due_13 rfl (lv_at hl 2 rfl) ?_
    refine fw_callSi hx hb hml hown hts hE hw [.int p1] [.ref (β 0)] (c_X9_isWeek l D A y sa f p1) (va_cwS 1 hts gX9_due_X9_isWeek rfl rfl rfl (by decide +kernel) ⟨Nat.le_of_ble_eq_true rfl, Nat.le_of_ble_eq_true rfl⟩) rfl hl.1 rfl (Nat.le_of_ble_eq_true rfl) dX9_due_14 ⟨Nat.le_of_ble_eq_true rfl, Nat.le_of_ble_eq_true rfl⟩ (fun r5 f6 H locs hp7 hw => ?_)
    obtain ⟨hp7a, hp7b⟩ := hp7
    rw [hp7b] at hw
    rw [hp7a]
    refine lv_if_eq (tgt := 24) hx hb dX9_due_17 (by decide) (fun c_8 => ?_) (fun c_8 => ?_)
    · have c_8 := fw_b0 c_8
      refine lv_iconst (v := 2) hx hb dX9_due_24 (by decide) ?_
      refine fw_callVi hx hb hml hown hts hE hw [.int 2] [] (c_X9_holds l D A y sa f β μ 2 hR) (cwV 1 hts gX9_due_X9_holds rfl rfl rfl (by decide +kernel) ⟨Nat.le_of_ble_eq_true rfl, Nat.le_of_ble_eq_true rfl⟩) (ci := 9) rfl rfl hR.o rfl hl.1 rfl (Nat.le_of_ble_eq_true rfl) dX9_due_25 ⟨Nat.le_of_ble_eq_true rfl, Nat.le_of_ble_eq_true rfl⟩ (fun r9 f10 H locs hp11 hw => ?_)
      obtain ⟨hp11a, hR⟩ := hp11
      rw [if_neg (by decide)] at hp11a
      rw [hp11a]
      refine lv_if_eq (tgt := 40) hx hb dX9_due_28 (by decide) (fun _ => ?_) (fun c_12 => absurd c_12 (by decide))
      refine lv_iconst (v := 0) hx hb dX9_due_40 (by decide) ?_
      exact fw_iret hx hb hr hlocks hw (Nat.le_of_ble_eq_true rfl) (Nat.le_of_ble_eq_true rfl) dX9_due_41 (Or.inr (Or.inl (⟨(by first | assumption | exact fun z => absurd z.1 (by assumption) | exact fun z => absurd z.2.1 (by assumption) | exact fun z => absurd z.2.2.1 (by assumption) | exact fun z => absurd z.2.2.2 (by assumption) | exact fun z => absurd z.2 (by assumption) | exact fun z => absurd z.2.2 (by assumption)), (by first | assumption | exact fun z => absurd z.1 (by assumption) | exact fun z => absurd z.2.1 (by assumption) | exact fun z => absurd z.2.2.1 (by assumption) | exact fun z => absurd z.2.2.2 (by assumption) | exact fun z => absurd z.2 (by assumption) | exact fun z => absurd z.2.2 (by assumption)), rfl, hR⟩)))
    · have c_8 := fw_b1 c_8
      refine lv_iconst (v := 0) hx hb dX9_due_20 (by decide) ?_
      refine lv_goto (tgt := 25) hx hb dX9_due_21 (by decide) ?_
      refine fw_callVi hx hb hml hown hts hE hw [.int 0] [] (c_X9_holds l D A y sa f β μ 0 hR) (cwV 1 hts gX9_due_X9_holds rfl rfl rfl (by decide +kernel) ⟨Nat.le_of_ble_eq_true rfl, Nat.le_of_ble_eq_true rfl⟩) (ci := 9) rfl rfl hR.o rfl hl.1 rfl (Nat.le_of_ble_eq_true rfl) dX9_due_25 ⟨Nat.le_of_ble_eq_true rfl, Nat.le_of_ble_eq_true rfl⟩ (fun r13 f14 H locs hp15 hw => ?_)
      obtain ⟨hp15a, hR⟩ := hp15
      rw [if_pos rfl] at hp15a
      rw [hp15a]
      refine lv_if_eq (tgt := 40) hx hb dX9_due_28 (by decide) (fun c_16 => absurd c_16 (by decide)) (fun _ => ?_)
      obtain ⟨wv, hwv, rfl⟩ := inr_w (n := nw) (by omega) c_4
      obtain ⟨kv, hkv, rfl⟩ := inr_of (n := 30) (by decide) c_8
      refine lv_aload_n hx hb dX9_due_31 rfl (lv_at hl 0 rfl) ?_
      refine lv_iload_n hx hb dX9_due_32 rfl (lv_at hl 1 rfl) ?_
      refine lv_iload_n hx hb dX9_due_33 rfl (lv_at hl 2 rfl) ?_
      refine fw_callVi hx hb hml hown hts hE hw [.int (nI wv), .int (nI kv)] [] (c_X9_dueFor l D A y sa f14 β (up2 μ 0 0 0) nw wk no nt hI wv kv (by omega) (by omega) hR) (cwV 2 hts gX9_due_X9_dueFor rfl rfl rfl (by decide +kernel) ⟨Nat.le_of_ble_eq_true rfl, Nat.le_of_ble_eq_true rfl⟩) (ci := 9) rfl rfl hR.o rfl hl.1 rfl (Nat.le_of_ble_eq_true rfl) dX9_due_34 ⟨Nat.le_of_ble_eq_true rfl, Nat.le_of_ble_eq_true rfl⟩ (fun r17 f18 H locs hp19 hw => ?_)
      obtain ⟨hp19a, hp19b⟩ := hp19
      rw [hp19b] at hw
      rw [hp19a]
      refine lv_goto (tgt := 41) hx hb dX9_due_37 (by decide) ?_
      exact fw_iret hx hb hr hlocks hw (Nat.le_of_ble_eq_true rfl) (Nat.le_of_ble_eq_true rfl) dX9_due_41 (Or.inr (Or.inr (⟨wv, kv, hwv, hkv, rfl, rfl, rfl, hR⟩)))
  · have c_4 := fw_b0 c_4
    refine lv_iconst (v := 1) hx hb dX9_due_9 (by decide) ?_
    refine lv_goto (tgt := 25) hx hb dX9_due_10 (by decide) ?_
    refine fw_callVi hx hb hml hown hts hE hw [.int 1] [] (c_X9_holds l D A y sa f β μ 1 hR) (cwV 1 hts gX9_due_X9_holds rfl rfl rfl (by decide +kernel) ⟨Nat.le_of_ble_eq_true rfl, Nat.le_of_ble_eq_true rfl⟩) (ci := 9) rfl rfl hR.o rfl hl.1 rfl (Nat.le_of_ble_eq_true rfl) dX9_due_25 ⟨Nat.le_of_ble_eq_true rfl, Nat.le_of_ble_eq_true rfl⟩ (fun r20 f21 H locs hp22 hw => ?_)
    obtain ⟨hp22a, hR⟩ := hp22
    rw [if_neg (by decide)] at hp22a
    rw [hp22a]
    refine lv_if_eq (tgt := 40) hx hb dX9_due_28 (by decide) (fun _ => ?_) (fun c_23 => absurd c_23 (by decide))
    refine lv_iconst (v := 0) hx hb dX9_due_40 (by decide) ?_
    exact fw_iret hx hb hr hlocks hw (Nat.le_of_ble_eq_true rfl) (Nat.le_of_ble_eq_true rfl) dX9_due_41 (Or.inl (⟨(by first | assumption | exact fun z => absurd z.1 (by assumption) | exact fun z => absurd z.2.1 (by assumption) | exact fun z => absurd z.2.2.1 (by assumption) | exact fun z => absurd z.2.2.2 (by assumption) | exact fun z => absurd z.2 (by assumption) | exact fun z => absurd z.2.2 (by assumption)), rfl, hR⟩))

theorem iX9_pot_9 : ∀ w ∈ wsX90, w ∈ wsX9_pot := by decide +kernel
set_option maxHeartbeats 4000000 in
set_option maxRecDepth 100000 in
/-- the reference: pot -/
theorem c_X9_pot (l : Launch) (D : va_G) (A : Nat → Prop) (y : Nat → ClassId) (sa : Nat → Nat) (f : fw_F) (β : Nat → Nat) (μ : mS) (p0 : Int32) (hR : Rm y μ β f) : Met l yX9_pot wsX9_pot ({ frames := 2, cells := 0, slots := 0, locals := 42 } : Room) (cPc D A y sa f [.ref (β 0), .int p0]) (cQi D A (fun r f1 => (¬ inr p0 0 2 ∧ r = 0 ∧ Rm y (up2 μ 0 0 1) β f1) ∨ (∃ ev, ev ≤ 2 ∧ p0 = nI ev ∧ r = μ 19 ev ∧ Rm y (up2 μ 0 0 0) β f1))) 0 0 A := by
  refine fw_met (by decide) rfl [.ref (β 0), .int p0] (Nat.le_of_ble_eq_true rfl) ?_
  intro p e s m args below meth c ls I hin hE hw hl
  obtain ⟨hx, hb, hr, hts, hown, hlocks, hml⟩ := I
  have hown : s.vm.findClass RX9 = some m.cls := hown
  have hl : lv_has ls 2 [(0, .ref (β 0)), (1, .int p0)] := hl
  refine lv_aload_n hx hb dX9_pot_0 rfl (lv_at hl 0 rfl) ?_
  refine lv_iload_n hx hb dX9_pot_1 rfl (lv_at hl 1 rfl) ?_
  refine fw_callSi hx hb hml hown hts hE hw [.int p0] [.ref (β 0)] (c_X9_isEmployer l D A y sa f p0) (va_cwS 1 hts gX9_pot_X9_isEmployer rfl rfl rfl (by decide +kernel) ⟨Nat.le_of_ble_eq_true rfl, Nat.le_of_ble_eq_true rfl⟩) rfl hl.1 rfl (Nat.le_of_ble_eq_true rfl) dX9_pot_2 ⟨Nat.le_of_ble_eq_true rfl, Nat.le_of_ble_eq_true rfl⟩ (fun r1 f2 H locs hp3 hw => ?_)
  obtain ⟨hp3a, hp3b⟩ := hp3
  rw [hp3b] at hw
  rw [hp3a]
  refine lv_if_eq (tgt := 12) hx hb dX9_pot_5 (by decide) (fun c_4 => ?_) (fun c_4 => ?_)
  · have c_4 := fw_b0 c_4
    refine lv_iconst (v := 1) hx hb dX9_pot_12 (by decide) ?_
    refine fw_callVi hx hb hml hown hts hE hw [.int 1] [] (c_X9_holds l D A y sa f β μ 1 hR) (cwV 1 hts gX9_pot_X9_holds rfl rfl rfl (by decide +kernel) ⟨Nat.le_of_ble_eq_true rfl, Nat.le_of_ble_eq_true rfl⟩) (ci := 9) rfl rfl hR.o rfl hl.1 rfl (Nat.le_of_ble_eq_true rfl) dX9_pot_13 ⟨Nat.le_of_ble_eq_true rfl, Nat.le_of_ble_eq_true rfl⟩ (fun r5 f6 H locs hp7 hw => ?_)
    obtain ⟨hp7a, hR⟩ := hp7
    rw [if_neg (by decide)] at hp7a
    rw [hp7a]
    refine lv_if_eq (tgt := 28) hx hb dX9_pot_16 (by decide) (fun _ => ?_) (fun c_8 => absurd c_8 (by decide))
    refine lv_iconst (v := 0) hx hb dX9_pot_28 (by decide) ?_
    exact fw_iret hx hb hr hlocks hw (Nat.le_of_ble_eq_true rfl) (Nat.le_of_ble_eq_true rfl) dX9_pot_29 (Or.inl (⟨(by first | assumption | exact fun z => absurd z.1 (by assumption) | exact fun z => absurd z.2.1 (by assumption) | exact fun z => absurd z.2.2.1 (by assumption) | exact fun z => absurd z.2.2.2 (by assumption) | exact fun z => absurd z.2 (by assumption) | exact fun z => absurd z.2.2 (by assumption)), rfl, hR⟩))
  · have c_4 := fw_b1 c_4
    refine lv_iconst (v := 0) hx hb dX9_pot_8 (by decide) ?_
    refine lv_goto (tgt := 13) hx hb dX9_pot_9 (by decide) ?_
    refine fw_callVi hx hb hml hown hts hE hw [.int 0] [] (c_X9_holds l D A y sa f β μ 0 hR) (cwV 1 hts gX9_pot_X9_holds rfl rfl rfl (by decide +kernel) ⟨Nat.le_of_ble_eq_true rfl, Nat.le_of_ble_eq_true rfl⟩) (ci := 9) rfl rfl hR.o rfl hl.1 rfl (Nat.le_of_ble_eq_true rfl) dX9_pot_13 ⟨Nat.le_of_ble_eq_true rfl, Nat.le_of_ble_eq_true rfl⟩ (fun r9 f10 H locs hp11 hw => ?_)
    obtain ⟨hp11a, hR⟩ := hp11
    rw [if_pos rfl] at hp11a
    rw [hp11a]
    refine lv_if_eq (tgt := 28) hx hb dX9_pot_16 (by decide) (fun c_12 => absurd c_12 (by decide)) (fun _ => ?_)
    obtain ⟨ev, hev, rfl⟩ := inr_of (n := 2) (by decide) c_4
    refine lv_aload_n hx hb dX9_pot_19 rfl (lv_at hl 0 rfl) ?_
    refine fw_get hx hb hts hown hE.1.1 hw (ci := 9) (fs := [.int 0, .int (μ 1 0), .int (μ 2 0), .ref (β 3), .ref (β 4), .ref (β 5), .ref (β 6), .ref (β 7), .ref (β 8), .ref (β 9), .ref (β 10), .ref (β 11), .ref (β 12), .int (μ 13 0), .ref (β 14), .ref (β 15), .ref (β 16), .ref (β 17), .int (μ 18 0), .ref (β 19), .ref (β 20), .int (μ 21 0), .ref (β 22), .ref (β 23), .ref (β 24)]) (v := .ref (β 19)) hR.o iX9_pot_9 rfl 19 (by decide) rfl (by decide +kernel) dX9_pot_20 ?_
    refine lv_iload_n hx hb dX9_pot_23 rfl (lv_at hl 1 rfl) ?_
    refine fw_iald hx hb hE.1.1 hw (g := (μ 19)) hR.a19 0 rfl (vp_in_nI (by omega) (by decide)) dX9_pot_24 ?_
    rw [nI_clamp (n := ev) (by omega)]
    refine lv_goto (tgt := 29) hx hb dX9_pot_25 (by decide) ?_
    exact fw_iret hx hb hr hlocks hw (Nat.le_of_ble_eq_true rfl) (Nat.le_of_ble_eq_true rfl) dX9_pot_29 (Or.inr (⟨ev, hev, rfl, rfl, hR⟩))

theorem iX9_shortage_9 : ∀ w ∈ wsX90, w ∈ wsX9_shortage := by decide +kernel
set_option maxHeartbeats 4000000 in
set_option maxRecDepth 100000 in
/-- the reference: shortage -/
theorem c_X9_shortage (l : Launch) (D : va_G) (A : Nat → Prop) (y : Nat → ClassId) (sa : Nat → Nat) (f : fw_F) (β : Nat → Nat) (μ : mS) (p0 : Int32) (hR : Rm y μ β f) : Met l yX9_shortage wsX9_shortage ({ frames := 2, cells := 0, slots := 0, locals := 42 } : Room) (cPc D A y sa f [.ref (β 0), .int p0]) (cQi D A (fun r f1 => (¬ inr p0 0 2 ∧ r = 0 ∧ Rm y (up2 μ 0 0 1) β f1) ∨ (∃ ev, ev ≤ 2 ∧ p0 = nI ev ∧ r = μ 20 ev ∧ Rm y (up2 μ 0 0 0) β f1))) 0 0 A := by
  refine fw_met (by decide) rfl [.ref (β 0), .int p0] (Nat.le_of_ble_eq_true rfl) ?_
  intro p e s m args below meth c ls I hin hE hw hl
  obtain ⟨hx, hb, hr, hts, hown, hlocks, hml⟩ := I
  have hown : s.vm.findClass RX9 = some m.cls := hown
  have hl : lv_has ls 2 [(0, .ref (β 0)), (1, .int p0)] := hl
  refine lv_aload_n hx hb dX9_shortage_0 rfl (lv_at hl 0 rfl) ?_
  refine lv_iload_n hx hb dX9_shortage_1 rfl (lv_at hl 1 rfl) ?_
  refine fw_callSi hx hb hml hown hts hE hw [.int p0] [.ref (β 0)] (c_X9_isEmployer l D A y sa f p0) (va_cwS 1 hts gX9_shortage_X9_isEmployer rfl rfl rfl (by decide +kernel) ⟨Nat.le_of_ble_eq_true rfl, Nat.le_of_ble_eq_true rfl⟩) rfl hl.1 rfl (Nat.le_of_ble_eq_true rfl) dX9_shortage_2 ⟨Nat.le_of_ble_eq_true rfl, Nat.le_of_ble_eq_true rfl⟩ (fun r1 f2 H locs hp3 hw => ?_)
  obtain ⟨hp3a, hp3b⟩ := hp3
  rw [hp3b] at hw
  rw [hp3a]
  refine lv_if_eq (tgt := 12) hx hb dX9_shortage_5 (by decide) (fun c_4 => ?_) (fun c_4 => ?_)
  · have c_4 := fw_b0 c_4
    refine lv_iconst (v := 1) hx hb dX9_shortage_12 (by decide) ?_
    refine fw_callVi hx hb hml hown hts hE hw [.int 1] [] (c_X9_holds l D A y sa f β μ 1 hR) (cwV 1 hts gX9_shortage_X9_holds rfl rfl rfl (by decide +kernel) ⟨Nat.le_of_ble_eq_true rfl, Nat.le_of_ble_eq_true rfl⟩) (ci := 9) rfl rfl hR.o rfl hl.1 rfl (Nat.le_of_ble_eq_true rfl) dX9_shortage_13 ⟨Nat.le_of_ble_eq_true rfl, Nat.le_of_ble_eq_true rfl⟩ (fun r5 f6 H locs hp7 hw => ?_)
    obtain ⟨hp7a, hR⟩ := hp7
    rw [if_neg (by decide)] at hp7a
    rw [hp7a]
    refine lv_if_eq (tgt := 28) hx hb dX9_shortage_16 (by decide) (fun _ => ?_) (fun c_8 => absurd c_8 (by decide))
    refine lv_iconst (v := 0) hx hb dX9_shortage_28 (by decide) ?_
    exact fw_iret hx hb hr hlocks hw (Nat.le_of_ble_eq_true rfl) (Nat.le_of_ble_eq_true rfl) dX9_shortage_29 (Or.inl (⟨(by first | assumption | exact fun z => absurd z.1 (by assumption) | exact fun z => absurd z.2.1 (by assumption) | exact fun z => absurd z.2.2.1 (by assumption) | exact fun z => absurd z.2.2.2 (by assumption) | exact fun z => absurd z.2 (by assumption) | exact fun z => absurd z.2.2 (by assumption)), rfl, hR⟩))
  · have c_4 := fw_b1 c_4
    refine lv_iconst (v := 0) hx hb dX9_shortage_8 (by decide) ?_
    refine lv_goto (tgt := 13) hx hb dX9_shortage_9 (by decide) ?_
    refine fw_callVi hx hb hml hown hts hE hw [.int 0] [] (c_X9_holds l D A y sa f β μ 0 hR) (cwV 1 hts gX9_shortage_X9_holds rfl rfl rfl (by decide +kernel) ⟨Nat.le_of_ble_eq_true rfl, Nat.le_of_ble_eq_true rfl⟩) (ci := 9) rfl rfl hR.o rfl hl.1 rfl (Nat.le_of_ble_eq_true rfl) dX9_shortage_13 ⟨Nat.le_of_ble_eq_true rfl, Nat.le_of_ble_eq_true rfl⟩ (fun r9 f10 H locs hp11 hw => ?_)
    obtain ⟨hp11a, hR⟩ := hp11
    rw [if_pos rfl] at hp11a
    rw [hp11a]
    refine lv_if_eq (tgt := 28) hx hb dX9_shortage_16 (by decide) (fun c_12 => absurd c_12 (by decide)) (fun _ => ?_)
    obtain ⟨ev, hev, rfl⟩ := inr_of (n := 2) (by decide) c_4
    refine lv_aload_n hx hb dX9_shortage_19 rfl (lv_at hl 0 rfl) ?_
    refine fw_get hx hb hts hown hE.1.1 hw (ci := 9) (fs := [.int 0, .int (μ 1 0), .int (μ 2 0), .ref (β 3), .ref (β 4), .ref (β 5), .ref (β 6), .ref (β 7), .ref (β 8), .ref (β 9), .ref (β 10), .ref (β 11), .ref (β 12), .int (μ 13 0), .ref (β 14), .ref (β 15), .ref (β 16), .ref (β 17), .int (μ 18 0), .ref (β 19), .ref (β 20), .int (μ 21 0), .ref (β 22), .ref (β 23), .ref (β 24)]) (v := .ref (β 20)) hR.o iX9_shortage_9 rfl 20 (by decide) rfl (by decide +kernel) dX9_shortage_20 ?_
    refine lv_iload_n hx hb dX9_shortage_23 rfl (lv_at hl 1 rfl) ?_
    refine fw_iald hx hb hE.1.1 hw (g := (μ 20)) hR.a20 0 rfl (vp_in_nI (by omega) (by decide)) dX9_shortage_24 ?_
    rw [nI_clamp (n := ev) (by omega)]
    refine lv_goto (tgt := 29) hx hb dX9_shortage_25 (by decide) ?_
    exact fw_iret hx hb hr hlocks hw (Nat.le_of_ble_eq_true rfl) (Nat.le_of_ble_eq_true rfl) dX9_shortage_29 (Or.inr (⟨ev, hev, rfl, rfl, hR⟩))

theorem iX9_setFloor_9 : ∀ w ∈ wsX90, w ∈ wsX9_setFloor := by decide +kernel
set_option maxHeartbeats 4000000 in
set_option maxRecDepth 100000 in
/-- the reference: setFloor -/
theorem c_X9_setFloor (l : Launch) (D : va_G) (A : Nat → Prop) (y : Nat → ClassId) (sa : Nat → Nat) (f : fw_F) (β : Nat → Nat) (μ : mS) (p0 : Int32) (hR : Rm y μ β f) : Met l yX9_setFloor wsX9_setFloor ({ frames := 1, cells := 0, slots := 0, locals := 22 } : Room) (cPc D A y sa f [.ref (β 0), .int p0]) (cQi D A (fun r f1 => (¬ inr p0 0 10000000 ∧ r = 0 ∧ Rm y (up2 μ 0 0 1) β f1) ∨ (inr p0 0 10000000 ∧ r = μ 18 0 ∧ Rm y (up2 (up2 μ 0 0 0) 18 0 p0) β f1))) 0 0 A := by
  refine fw_met (by decide) rfl [.ref (β 0), .int p0] (Nat.le_of_ble_eq_true rfl) ?_
  intro p e s m args below meth c ls I hin hE hw hl
  obtain ⟨hx, hb, hr, hts, hown, hlocks, hml⟩ := I
  have hown : s.vm.findClass RX9 = some m.cls := hown
  have hl : lv_has ls 3 [(0, .ref (β 0)), (1, .int p0)] := hl
  refine lv_aload_n hx hb dX9_setFloor_0 rfl (lv_at hl 0 rfl) ?_
  refine lv_iload_n hx hb dX9_setFloor_1 rfl (lv_at hl 1 rfl) ?_
  refine lv_iconst (v := 0) hx hb dX9_setFloor_2 (by decide) ?_
  refine lv_ldc (own := RX9) (v := 10000000) hx hb hown (hts (.constant RX9 108 (10000000)) (by decide +kernel)) dX9_setFloor_3 ?_
  refine fw_callSi hx hb hml hown hts hE hw [.int p0, .int 0, .int 10000000] [.ref (β 0)] (c_X9_in l D A y sa f p0 0 10000000) (va_cwS 3 hts gX9_setFloor_X9_in rfl rfl rfl (by decide +kernel) ⟨Nat.le_of_ble_eq_true rfl, Nat.le_of_ble_eq_true rfl⟩) rfl hl.1 rfl (Nat.le_of_ble_eq_true rfl) dX9_setFloor_5 ⟨Nat.le_of_ble_eq_true rfl, Nat.le_of_ble_eq_true rfl⟩ (fun r1 f2 H locs hp3 hw => ?_)
  obtain ⟨hp3a, hp3b⟩ := hp3
  rw [hp3b] at hw
  rw [hp3a]
  refine lv_if_eq (tgt := 15) hx hb dX9_setFloor_8 (by decide) (fun c_4 => ?_) (fun c_4 => ?_)
  · have c_4 := fw_b0 c_4
    refine lv_iconst (v := 1) hx hb dX9_setFloor_15 (by decide) ?_
    refine fw_callVi hx hb hml hown hts hE hw [.int 1] [] (c_X9_holds l D A y sa f β μ 1 hR) (cwV 1 hts gX9_setFloor_X9_holds rfl rfl rfl (by decide +kernel) ⟨Nat.le_of_ble_eq_true rfl, Nat.le_of_ble_eq_true rfl⟩) (ci := 9) rfl rfl hR.o rfl hl.1 rfl (Nat.le_of_ble_eq_true rfl) dX9_setFloor_16 ⟨Nat.le_of_ble_eq_true rfl, Nat.le_of_ble_eq_true rfl⟩ (fun r5 f6 H locs hp7 hw => ?_)
    obtain ⟨hp7a, hR⟩ := hp7
    rw [if_neg (by decide)] at hp7a
    rw [hp7a]
    refine lv_if_ne (tgt := 24) hx hb dX9_setFloor_19 (by decide) (fun c_8 => absurd c_8 (by decide)) (fun _ => ?_)
    refine lv_iconst (v := 0) hx hb dX9_setFloor_22 (by decide) ?_
    exact fw_iret hx hb hr hlocks hw (Nat.le_of_ble_eq_true rfl) (Nat.le_of_ble_eq_true rfl) dX9_setFloor_23 (Or.inl (⟨(by first | assumption | exact fun z => absurd z.1 (by assumption) | exact fun z => absurd z.2.1 (by assumption) | exact fun z => absurd z.2.2.1 (by assumption) | exact fun z => absurd z.2.2.2 (by assumption) | exact fun z => absurd z.2 (by assumption) | exact fun z => absurd z.2.2 (by assumption)), rfl, hR⟩))
  · have c_4 := fw_b1 c_4
    refine lv_iconst (v := 0) hx hb dX9_setFloor_11 (by decide) ?_
    refine lv_goto (tgt := 16) hx hb dX9_setFloor_12 (by decide) ?_
    refine fw_callVi hx hb hml hown hts hE hw [.int 0] [] (c_X9_holds l D A y sa f β μ 0 hR) (cwV 1 hts gX9_setFloor_X9_holds rfl rfl rfl (by decide +kernel) ⟨Nat.le_of_ble_eq_true rfl, Nat.le_of_ble_eq_true rfl⟩) (ci := 9) rfl rfl hR.o rfl hl.1 rfl (Nat.le_of_ble_eq_true rfl) dX9_setFloor_16 ⟨Nat.le_of_ble_eq_true rfl, Nat.le_of_ble_eq_true rfl⟩ (fun r9 f10 H locs hp11 hw => ?_)
    obtain ⟨hp11a, hR⟩ := hp11
    rw [if_pos rfl] at hp11a
    rw [hp11a]
    refine lv_if_ne (tgt := 24) hx hb dX9_setFloor_19 (by decide) (fun _ => ?_) (fun c_12 => absurd c_12 (by decide))
    refine lv_aload_n hx hb dX9_setFloor_24 rfl (lv_at hl 0 rfl) ?_
    refine fw_get hx hb hts hown hE.1.1 hw (ci := 9) (fs := [.int 0, .int (μ 1 0), .int (μ 2 0), .ref (β 3), .ref (β 4), .ref (β 5), .ref (β 6), .ref (β 7), .ref (β 8), .ref (β 9), .ref (β 10), .ref (β 11), .ref (β 12), .int (μ 13 0), .ref (β 14), .ref (β 15), .ref (β 16), .ref (β 17), .int (μ 18 0), .ref (β 19), .ref (β 20), .int (μ 21 0), .ref (β 22), .ref (β 23), .ref (β 24)]) (v := .int (μ 18 0)) hR.o iX9_setFloor_9 rfl 18 (by decide) rfl (by decide +kernel) dX9_setFloor_25 ?_
    refine lv_istore_n (lv' := [(2, .int (μ 18 0)), (0, .ref (β 0)), (1, .int p0)]) hx hb dX9_setFloor_28 rfl hl (by decide) rfl (fun ls hl => ?_)
    refine lv_aload_n hx hb dX9_setFloor_29 rfl (lv_at hl 1 rfl) ?_
    refine lv_iload_n hx hb dX9_setFloor_30 rfl (lv_at hl 2 rfl) ?_
    refine fw_put hx hb hts hown hE.1.1 hw (ci := 9) (fs := [.int 0, .int (μ 1 0), .int (μ 2 0), .ref (β 3), .ref (β 4), .ref (β 5), .ref (β 6), .ref (β 7), .ref (β 8), .ref (β 9), .ref (β 10), .ref (β 11), .ref (β 12), .int (μ 13 0), .ref (β 14), .ref (β 15), .ref (β 16), .ref (β 17), .int (μ 18 0), .ref (β 19), .ref (β 20), .int (μ 21 0), .ref (β 22), .ref (β 23), .ref (β 24)]) (v := .int p0) hR.o iX9_setFloor_9 tyX9 tyX9_ok nmX9 rfl 18 (by decide) rfl rfl rfl (Nat.le_of_ble_eq_true rfl) (by decide +kernel) dX9_setFloor_31 (fun H locs hw => ?_)
    obtain ⟨f13, ef13⟩ : ∃ z, z = fw_up f10 (β 0) (.inr (9, [.int 0, .int (μ 1 0), .int (μ 2 0), .ref (β 3), .ref (β 4), .ref (β 5), .ref (β 6), .ref (β 7), .ref (β 8), .ref (β 9), .ref (β 10), .ref (β 11), .ref (β 12), .int (μ 13 0), .ref (β 14), .ref (β 15), .ref (β 16), .ref (β 17), .int p0, .ref (β 19), .ref (β 20), .int (μ 21 0), .ref (β 22), .ref (β 23), .ref (β 24)])) := ⟨_, rfl⟩
    have hw : fw_S D A s.heap f13 H locs := by rw [ef13]; exact hw
    have hR : Rm y (up2 (up2 μ 0 0 0) 18 0 p0) β f13 := by rw [ef13]; exact hR.p18 p0
    refine lv_iload_n hx hb dX9_setFloor_34 rfl (lv_at hl 0 rfl) ?_
    exact fw_iret hx hb hr hlocks hw (Nat.le_of_ble_eq_true rfl) (Nat.le_of_ble_eq_true rfl) dX9_setFloor_35 (Or.inr (⟨by assumption, rfl, hR⟩))

theorem iX9_slip_9 : ∀ w ∈ wsX90, w ∈ wsX9_slip := by decide +kernel
set_option maxHeartbeats 4000000 in
set_option maxRecDepth 100000 in
/-- the reference: slip -/
theorem c_X9_slip (l : Launch) (D : va_G) (A : Nat → Prop) (y : Nat → ClassId) (sa : Nat → Nat) (f : fw_F) (β : Nat → Nat) (μ : mS) (p0 p1 p2 : Int32) (nw wk no nt : Nat) (hI : Im μ nw wk no nt) (hR : Rm y μ β f) : Met l yX9_slip wsX9_slip ({ frames := 2, cells := 0, slots := 0, locals := 43 } : Room) (cPc D A y sa f [.ref (β 0), .int p0, .int p1, .int p2]) (cQi D A (fun r f1 => (¬ inr p0 0 (nI nw - 1) ∧ r = 0 ∧ Rm y (up2 μ 0 0 1) β f1) ∨ (inr p0 0 (nI nw - 1) ∧ ¬ (inr p1 0 30 ∧ inr p2 0 3) ∧ r = 0 ∧ Rm y (up2 μ 0 0 2) β f1) ∨ (∃ wv kv pv, wv < nw ∧ kv ≤ 30 ∧ pv ≤ 3 ∧ p0 = nI wv ∧ p1 = nI kv ∧ p2 = nI pv ∧ r = μ 12 (4 * (31 * wv + kv) + pv) ∧ Rm y (up2 μ 0 0 0) β f1))) 0 0 A := by
  refine fw_met (by decide) rfl [.ref (β 0), .int p0, .int p1, .int p2] (Nat.le_of_ble_eq_true rfl) ?_
  intro p e s m args below meth c ls I hin hE hw hl
  obtain ⟨hx, hb, hr, hts, hown, hlocks, hml⟩ := I
  have hown : s.vm.findClass RX9 = some m.cls := hown
  have hl : lv_has ls 4 [(0, .ref (β 0)), (1, .int p0), (2, .int p1), (3, .int p2)] := hl
  obtain ⟨hI1, hI2, hI3, hI4, hI5, hI6, hI7, hI8, hI9, hI10, hI11, hI12, hI13⟩ := id hI
  refine lv_aload_n hx hb dX9_slip_0 rfl (lv_at hl 0 rfl) ?_
  refine lv_aload_n hx hb dX9_slip_1 rfl (lv_at hl 0 rfl) ?_
  refine lv_iload_n hx hb dX9_slip_2 rfl (lv_at hl 1 rfl) ?_
  refine fw_callVi hx hb hml hown hts hE hw [.int p0] [.ref (β 0)] (c_X9_isWorker l D A y sa f β μ p0 hR) (cwV 1 hts gX9_slip_X9_isWorker rfl rfl rfl (by decide +kernel) ⟨Nat.le_of_ble_eq_true rfl, Nat.le_of_ble_eq_true rfl⟩) (ci := 9) rfl rfl hR.o rfl hl.1 rfl (Nat.le_of_ble_eq_true rfl) dX9_slip_3 ⟨Nat.le_of_ble_eq_true rfl, Nat.le_of_ble_eq_true rfl⟩ (fun r1 f2 H locs hp3 hw => ?_)
  obtain ⟨hp3a, hp3b⟩ := hp3
  rw [hp3b] at hw
  have hp3c : r1 = (if inr p0 0 (nI nw - 1) then 1 else 0) := hp3a.trans (by rw [show μ 2 0 = nI nw from hI1])
  rw [hp3c]
  refine lv_if_ne (tgt := 13) hx hb dX9_slip_6 (by decide) (fun c_4 => ?_) (fun c_4 => ?_)
  · have c_4 := fw_b1 c_4
    refine lv_iload_n hx hb dX9_slip_13 rfl (lv_at hl 2 rfl) ?_
    refine fw_callSi hx hb hml hown hts hE hw [.int p1] [.ref (β 0)] (c_X9_isWeek l D A y sa f p1) (va_cwS 1 hts gX9_slip_X9_isWeek rfl rfl rfl (by decide +kernel) ⟨Nat.le_of_ble_eq_true rfl, Nat.le_of_ble_eq_true rfl⟩) rfl hl.1 rfl (Nat.le_of_ble_eq_true rfl) dX9_slip_14 ⟨Nat.le_of_ble_eq_true rfl, Nat.le_of_ble_eq_true rfl⟩ (fun r5 f6 H locs hp7 hw => ?_)
    obtain ⟨hp7a, hp7b⟩ := hp7
    rw [hp7b] at hw
    rw [hp7a]
    refine lv_if_eq (tgt := 33) hx hb dX9_slip_17 (by decide) (fun c_8 => ?_) (fun c_8 => ?_)
    · have c_8 := fw_b0 c_8
      refine lv_iconst (v := 2) hx hb dX9_slip_33 (by decide) ?_
      refine fw_callVi hx hb hml hown hts hE hw [.int 2] [] (c_X9_holds l D A y sa f β μ 2 hR) (cwV 1 hts gX9_slip_X9_holds rfl rfl rfl (by decide +kernel) ⟨Nat.le_of_ble_eq_true rfl, Nat.le_of_ble_eq_true rfl⟩) (ci := 9) rfl rfl hR.o rfl hl.1 rfl (Nat.le_of_ble_eq_true rfl) dX9_slip_34 ⟨Nat.le_of_ble_eq_true rfl, Nat.le_of_ble_eq_true rfl⟩ (fun r9 f10 H locs hp11 hw => ?_)
      obtain ⟨hp11a, hR⟩ := hp11
      rw [if_neg (by decide)] at hp11a
      rw [hp11a]
      refine lv_if_ne (tgt := 42) hx hb dX9_slip_37 (by decide) (fun c_12 => absurd c_12 (by decide)) (fun _ => ?_)
      refine lv_iconst (v := 0) hx hb dX9_slip_40 (by decide) ?_
      exact fw_iret hx hb hr hlocks hw (Nat.le_of_ble_eq_true rfl) (Nat.le_of_ble_eq_true rfl) dX9_slip_41 (Or.inr (Or.inl (⟨(by first | assumption | exact fun z => absurd z.1 (by assumption) | exact fun z => absurd z.2.1 (by assumption) | exact fun z => absurd z.2.2.1 (by assumption) | exact fun z => absurd z.2.2.2 (by assumption) | exact fun z => absurd z.2 (by assumption) | exact fun z => absurd z.2.2 (by assumption)), (by first | assumption | exact fun z => absurd z.1 (by assumption) | exact fun z => absurd z.2.1 (by assumption) | exact fun z => absurd z.2.2.1 (by assumption) | exact fun z => absurd z.2.2.2 (by assumption) | exact fun z => absurd z.2 (by assumption) | exact fun z => absurd z.2.2 (by assumption)), rfl, hR⟩)))
    · have c_8 := fw_b1 c_8
      refine lv_iload_n hx hb dX9_slip_20 rfl (lv_at hl 3 rfl) ?_
      refine lv_iconst (v := 0) hx hb dX9_slip_21 (by decide) ?_
      refine lv_iconst (v := 3) hx hb dX9_slip_22 (by decide) ?_
      refine fw_callSi hx hb hml hown hts hE hw [.int p2, .int 0, .int 3] [.ref (β 0)] (c_X9_in l D A y sa f p2 0 3) (va_cwS 3 hts gX9_slip_X9_in rfl rfl rfl (by decide +kernel) ⟨Nat.le_of_ble_eq_true rfl, Nat.le_of_ble_eq_true rfl⟩) rfl hl.1 rfl (Nat.le_of_ble_eq_true rfl) dX9_slip_23 ⟨Nat.le_of_ble_eq_true rfl, Nat.le_of_ble_eq_true rfl⟩ (fun r13 f14 H locs hp15 hw => ?_)
      obtain ⟨hp15a, hp15b⟩ := hp15
      rw [hp15b] at hw
      rw [hp15a]
      refine lv_if_eq (tgt := 33) hx hb dX9_slip_26 (by decide) (fun c_16 => ?_) (fun c_16 => ?_)
      · have c_16 := fw_b0 c_16
        refine lv_iconst (v := 2) hx hb dX9_slip_33 (by decide) ?_
        refine fw_callVi hx hb hml hown hts hE hw [.int 2] [] (c_X9_holds l D A y sa f β μ 2 hR) (cwV 1 hts gX9_slip_X9_holds rfl rfl rfl (by decide +kernel) ⟨Nat.le_of_ble_eq_true rfl, Nat.le_of_ble_eq_true rfl⟩) (ci := 9) rfl rfl hR.o rfl hl.1 rfl (Nat.le_of_ble_eq_true rfl) dX9_slip_34 ⟨Nat.le_of_ble_eq_true rfl, Nat.le_of_ble_eq_true rfl⟩ (fun r17 f18 H locs hp19 hw => ?_)
        obtain ⟨hp19a, hR⟩ := hp19
        rw [if_neg (by decide)] at hp19a
        rw [hp19a]
        refine lv_if_ne (tgt := 42) hx hb dX9_slip_37 (by decide) (fun c_20 => absurd c_20 (by decide)) (fun _ => ?_)
        refine lv_iconst (v := 0) hx hb dX9_slip_40 (by decide) ?_
        exact fw_iret hx hb hr hlocks hw (Nat.le_of_ble_eq_true rfl) (Nat.le_of_ble_eq_true rfl) dX9_slip_41 (Or.inr (Or.inl (⟨(by first | assumption | exact fun z => absurd z.1 (by assumption) | exact fun z => absurd z.2.1 (by assumption) | exact fun z => absurd z.2.2.1 (by assumption) | exact fun z => absurd z.2.2.2 (by assumption) | exact fun z => absurd z.2 (by assumption) | exact fun z => absurd z.2.2 (by assumption)), (by first | assumption | exact fun z => absurd z.1 (by assumption) | exact fun z => absurd z.2.1 (by assumption) | exact fun z => absurd z.2.2.1 (by assumption) | exact fun z => absurd z.2.2.2 (by assumption) | exact fun z => absurd z.2 (by assumption) | exact fun z => absurd z.2.2 (by assumption)), rfl, hR⟩)))
      · have c_16 := fw_b1 c_16
        refine lv_iconst (v := 0) hx hb dX9_slip_29 (by decide) ?_
        refine lv_goto (tgt := 34) hx hb dX9_slip_30 (by decide) ?_
        refine fw_callVi hx hb hml hown hts hE hw [.int 0] [] (c_X9_holds l D A y sa f β μ 0 hR) (cwV 1 hts gX9_slip_X9_holds rfl rfl rfl (by decide +kernel) ⟨Nat.le_of_ble_eq_true rfl, Nat.le_of_ble_eq_true rfl⟩) (ci := 9) rfl rfl hR.o rfl hl.1 rfl (Nat.le_of_ble_eq_true rfl) dX9_slip_34 ⟨Nat.le_of_ble_eq_true rfl, Nat.le_of_ble_eq_true rfl⟩ (fun r21 f22 H locs hp23 hw => ?_)
        obtain ⟨hp23a, hR⟩ := hp23
        rw [if_pos rfl] at hp23a
        rw [hp23a]
        refine lv_if_ne (tgt := 42) hx hb dX9_slip_37 (by decide) (fun _ => ?_) (fun c_24 => absurd c_24 (by decide))
        obtain ⟨wv, hwv, rfl⟩ := inr_w (n := nw) (by omega) c_4
        obtain ⟨kv, hkv, rfl⟩ := inr_of (n := 30) (by decide) c_8
        obtain ⟨pv, hpv, rfl⟩ := inr_of (n := 3) (by decide) c_16
        refine lv_aload_n hx hb dX9_slip_42 rfl (lv_at hl 0 rfl) ?_
        refine fw_get hx hb hts hown hE.1.1 hw (ci := 9) (fs := [.int 0, .int (μ 1 0), .int (μ 2 0), .ref (β 3), .ref (β 4), .ref (β 5), .ref (β 6), .ref (β 7), .ref (β 8), .ref (β 9), .ref (β 10), .ref (β 11), .ref (β 12), .int (μ 13 0), .ref (β 14), .ref (β 15), .ref (β 16), .ref (β 17), .int (μ 18 0), .ref (β 19), .ref (β 20), .int (μ 21 0), .ref (β 22), .ref (β 23), .ref (β 24)]) (v := .ref (β 12)) hR.o iX9_slip_9 rfl 12 (by decide) rfl (by decide +kernel) dX9_slip_43 ?_
        refine lv_iconst (v := 4) hx hb dX9_slip_46 (by decide) ?_
        refine lv_bipush (v := 31) hx hb dX9_slip_47 (by decide) ?_
        refine lv_iload_n hx hb dX9_slip_49 rfl (lv_at hl 1 rfl) ?_
        refine lv_imul hx hb dX9_slip_50 ?_
        rw [show ((31 * (nI wv)) : Int32) = (nI (31 * wv)) from nI_mul (31) (wv)]
        refine lv_iload_n hx hb dX9_slip_51 rfl (lv_at hl 2 rfl) ?_
        refine lv_iadd hx hb dX9_slip_52 ?_
        rw [show (((nI (31 * wv)) + (nI kv)) : Int32) = (nI (((31 * wv)) + kv)) from nI_add ((31 * wv)) (kv)]
        refine lv_imul hx hb dX9_slip_53 ?_
        rw [show ((4 * (nI (((31 * wv)) + kv))) : Int32) = (nI (4 * ((((31 * wv)) + kv)))) from nI_mul (4) ((((31 * wv)) + kv))]
        refine lv_iload_n hx hb dX9_slip_54 rfl (lv_at hl 3 rfl) ?_
        refine lv_iadd hx hb dX9_slip_55 ?_
        rw [show (((nI (4 * ((((31 * wv)) + kv)))) + (nI pv)) : Int32) = (nI (((4 * ((((31 * wv)) + kv)))) + pv)) from nI_add ((4 * ((((31 * wv)) + kv)))) (pv)]
        refine fw_iald hx hb hE.1.1 hw (g := (μ 12)) hR.a12 0 rfl (vp_in_nI (by omega) (by decide)) dX9_slip_56 ?_
        rw [nI_clamp (n := (((4 * ((((31 * wv)) + kv)))) + pv)) (by omega)]
        exact fw_iret hx hb hr hlocks hw (Nat.le_of_ble_eq_true rfl) (Nat.le_of_ble_eq_true rfl) dX9_slip_57 (Or.inr (Or.inr (⟨wv, kv, pv, hwv, hkv, hpv, rfl, rfl, rfl, rfl, hR⟩)))
  · have c_4 := fw_b0 c_4
    refine lv_iconst (v := 1) hx hb dX9_slip_9 (by decide) ?_
    refine lv_goto (tgt := 34) hx hb dX9_slip_10 (by decide) ?_
    refine fw_callVi hx hb hml hown hts hE hw [.int 1] [] (c_X9_holds l D A y sa f β μ 1 hR) (cwV 1 hts gX9_slip_X9_holds rfl rfl rfl (by decide +kernel) ⟨Nat.le_of_ble_eq_true rfl, Nat.le_of_ble_eq_true rfl⟩) (ci := 9) rfl rfl hR.o rfl hl.1 rfl (Nat.le_of_ble_eq_true rfl) dX9_slip_34 ⟨Nat.le_of_ble_eq_true rfl, Nat.le_of_ble_eq_true rfl⟩ (fun r25 f26 H locs hp27 hw => ?_)
    obtain ⟨hp27a, hR⟩ := hp27
    rw [if_neg (by decide)] at hp27a
    rw [hp27a]
    refine lv_if_ne (tgt := 42) hx hb dX9_slip_37 (by decide) (fun c_28 => absurd c_28 (by decide)) (fun _ => ?_)
    refine lv_iconst (v := 0) hx hb dX9_slip_40 (by decide) ?_
    exact fw_iret hx hb hr hlocks hw (Nat.le_of_ble_eq_true rfl) (Nat.le_of_ble_eq_true rfl) dX9_slip_41 (Or.inl (⟨(by first | assumption | exact fun z => absurd z.1 (by assumption) | exact fun z => absurd z.2.1 (by assumption) | exact fun z => absurd z.2.2.1 (by assumption) | exact fun z => absurd z.2.2.2 (by assumption) | exact fun z => absurd z.2 (by assumption) | exact fun z => absurd z.2.2 (by assumption)), rfl, hR⟩))
end
