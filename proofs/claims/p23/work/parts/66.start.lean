/-! THE CLAIM OUT OF ONE WALK OF THE LAW'S BODY. Your part is whole_start (and what it stands on); all else here is the same for every law, but numbers. -/
def R_law : String := "CrewPayLaw"
def lw_P (b : Addr) (xs : List Int32) (args : Array Value) (s : State) : Prop := args = #[.ref b] ∧ s.IntsAt b xs ∧ xs.length ≤ 260 ∧ (Jvm.Cond.and given_1 narrow_1).before args s = true
def lw_Q (_ : Array Value) (s : State) (o : Outcome) (t : State) : Prop := o = .returned (some (.int 1)) ∧ Framed s o t [] 663013 7112659
def lw_Z (below : List Frame) (a : Array Value) (s : State) : State → Prop := fun t => ∃ o, t.status = .running ∧ Ended t below o ∧ lw_Q a s o t
/-- the law's own end, with 1 on the stack, nothing written that was there before, its room as the claim has it -/
theorem lw_ret {p : Program} {l : Launch} {e : Env} {s : State} {m : MethodId} {below : List Frame} {meth : Method} {c : Code} {b : Nat} (hx : p.tables.exec = Jvm.exec) (hb : c.code = code) (hr : meth.sig.returnType = ret) (hlocks : meth.locks = false) {pc : Nat} {H : Heap} {ls : Array Slot} (hdg : decode code pc = .ok (.ireturn, 1)) : W p l e room_1 s m #[Value.ref b] below meth c H [] 663013 7112659 (lw_Z below #[Value.ref b] s) (F0 m pc ls [.int 1]) := by
  intro T hT X
  obtain ⟨fs, hret, hrun, hended, hW, hframe⟩ := X.leave (v := some (.int 1)) (hlocks := hlocks) (fun h => by rw [hr] at h; cases h)
  have hmeth' : T.vm.method? m = some meth := X.method'
  refine ⟨T.setFrames fs, ?_, .returned (some (.int 1)), hrun, hended, rfl, ⟨_, rfl⟩, hW, hframe⟩
  jvm_step X.here [X.here.top, hx, hb, hdg, hmeth', hr, ret, narrow_b1]
  (try refine ⟨rfl, ?_⟩); (try refine ⟨rfl, ?_⟩)
  first | (intro acts; rw [hret _ acts rfl rfl rfl]) | rw [hret _ _ rfl rfl rfl]
  exact Steps.refl _
/-- what holds at the law's entry: the machine, the code, the tables' words (any of lw_tbl by 'hts w (by decide +kernel)'), the script of L ints xs at the cell b, what the Statement gives of the start (any of its parts by flat_of_before) -/
def lw_At (p : Program) (s : State) (m : MethodId) (meth : Method) (c : Code) (b L : Nat) (xs : Nat → Int32) : Prop :=
  p.tables.exec = Jvm.exec ∧ c.code = code ∧ meth.sig.returnType = ret ∧ c.maxLocals = 7 ∧ s.vm.findClass R_law = some m.cls ∧ (∀ w ∈ lw_tbl, w.before #[Value.ref b] s = true) ∧ va_X b L xs s s.heap ∧ b < s.heap.size ∧ meth.locks = false ∧ (Jvm.Cond.and given_1 narrow_1).before #[Value.ref b] s = true
/-! THE START: the machine's words that every contract takes, out of the tables and of what the Statement gives -/
theorem st_int {args : Array Value} {s : State} (h : (Cond.arrayClass .int).before args s = true) : ∃ c, ArrOfT s c .int ∧ va_RA s c .int := by
  obtain ⟨c, k, comp, h1, h2, h3⟩ := Cond.arrayClass_spec h
  exact ⟨c, fun N z => ⟨(fun k h => by cases h), k, h2, comp, h3⟩, h1⟩
theorem st_bool {args : Array Value} {s : State} (h : (Cond.arrayClass .boolean).before args s = true) : ∃ c, ArrOfT s c .boolean ∧ va_RA s c .boolean := by
  obtain ⟨c, k, comp, h1, h2, h3⟩ := Cond.arrayClass_spec h
  exact ⟨c, fun N z => ⟨(fun k h => by cases h), k, h2, comp, h3⟩, h1⟩
theorem st_obj {args : Array Value} {s : State} {C : String} (h : (Cond.arrayOver (.object C)).before args s = true) : ∃ c, ArrOfT s c (.object C) ∧ va_RA s c (.object C) := by
  obtain ⟨comp, c, k, h1, h2, h3, h4, h5⟩ := Cond.arrayOver_spec h
  exact ⟨c, fun N z => ⟨(fun k h => by cases h), k, h3, comp, h4⟩, k, comp, h3, h4, h1, h5⟩
set_option maxRecDepth 20000 in
theorem st_ins : ∀ q ∈ vwCl, Cond.instantiable q.1 q.2.2 ∈ lw_tbl := by
  have h : ∀ w ∈ ([.instantiable RX0 4, .instantiable RX1 2, .instantiable RX2 2, .instantiable RX3 2, .instantiable RX4 3, .instantiable RX5 4, .instantiable RX6 3, .instantiable RX7 8, .instantiable RX8 10] : List Cond), w ∈ lw_tbl := by decide +kernel
  intro q hq
  simp only [vwCl, List.mem_cons, List.not_mem_nil, or_false] at hq
  rcases hq with rfl | rfl | rfl | rfl | rfl | rfl | rfl | rfl | rfl <;> exact h _ (by simp only [List.mem_cons, true_or, or_true])
set_option maxRecDepth 20000 in
theorem st_arr : ∀ w ∈ ([.arrayClass .int, .arrayClass .boolean] : List Cond), w ∈ lw_tbl := by decide +kernel
set_option maxRecDepth 20000 in
theorem st_ao : ∀ c ∈ aoW, Cond.arrayOver (.object c) ∈ lw_tbl := by decide +kernel
set_option maxRecDepth 20000 in
theorem st_nw : ∀ w ∈ dNW, w ∈ lw_tbl ∧ w.onTables = true := by decide +kernel
set_option maxRecDepth 20000 in
theorem st_nest : ∀ q ∈ nestW, Cond.methodLinkNest RX8 q.1 q.2 RX8 ∈ lw_tbl ∧ (Cond.methodLinkNest RX8 q.1 q.2 RX8).onTables = true := by decide +kernel
set_option maxRecDepth 20000 in
theorem st_str : ∀ q ∈ strW, Cond.stringRef RX8 q.1 q.2 ∈ lw_tbl := by decide +kernel
set_option maxRecDepth 20000 in
theorem st_stat : ∀ w ∈ ([.laysStatic Bundle.tN "UNASSIGNED_STACK" Bundle.steD, .laysStatic Bundle.tN "SUPPRESSED_SENTINEL" Bundle.listD, .initialized Bundle.tN] : List Cond), w ∈ lw_tbl := by decide +kernel
theorem st_K {args : Array Value} {s : State} (hts : ∀ w ∈ lw_tbl, w.before args s = true) : ∃ (D : va_G) (y : Nat → ClassId), va_K D vwCl (tysC y) s := by
  obtain ⟨c0, i0, k0⟩ := u_known (C := RX0) (T := TX0) (N := 4) (n := 4) hts inX0 (hts _ (st_ins (RX0, TX0, 4) (by simp only [vwCl, List.mem_cons, true_or, or_true])))
  obtain ⟨c1, i1, k1⟩ := u_known (C := RX1) (T := TX1) (N := 2) (n := 2) hts inX1 (hts _ (st_ins (RX1, TX1, 2) (by simp only [vwCl, List.mem_cons, true_or, or_true])))
  obtain ⟨c2, i2, k2⟩ := u_known (C := RX2) (T := TX2) (N := 2) (n := 2) hts inX2 (hts _ (st_ins (RX2, TX2, 2) (by simp only [vwCl, List.mem_cons, true_or, or_true])))
  obtain ⟨c3, i3, k3⟩ := u_known (C := RX3) (T := TX3) (N := 2) (n := 2) hts inX3 (hts _ (st_ins (RX3, TX3, 2) (by simp only [vwCl, List.mem_cons, true_or, or_true])))
  obtain ⟨c4, i4, k4⟩ := u_known (C := RX4) (T := TX4) (N := 3) (n := 3) hts inX4 (hts _ (st_ins (RX4, TX4, 3) (by simp only [vwCl, List.mem_cons, true_or, or_true])))
  obtain ⟨c5, i5, k5⟩ := u_known (C := RX5) (T := TX5) (N := 4) (n := 4) hts inX5 (hts _ (st_ins (RX5, TX5, 4) (by simp only [vwCl, List.mem_cons, true_or, or_true])))
  obtain ⟨c6, i6, k6⟩ := u_known (C := RX6) (T := TX6) (N := 3) (n := 3) hts inX6 (hts _ (st_ins (RX6, TX6, 3) (by simp only [vwCl, List.mem_cons, true_or, or_true])))
  obtain ⟨c7, i7, k7⟩ := u_known (C := RX7) (T := TX7) (N := 8) (n := 8) hts inX7 (hts _ (st_ins (RX7, TX7, 8) (by simp only [vwCl, List.mem_cons, true_or, or_true])))
  obtain ⟨c8, i8, k8⟩ := u_known (C := RX8) (T := TX8) (N := 10) (n := 10) hts inX8 (hts _ (st_ins (RX8, TX8, 10) (by simp only [vwCl, List.mem_cons, true_or, or_true])))
  obtain ⟨a0, h0⟩ := st_int (hts _ (st_arr _ (by simp only [List.mem_cons, true_or, or_true])))
  obtain ⟨a1, h1⟩ := st_bool (hts _ (st_arr _ (by simp only [List.mem_cons, true_or, or_true])))
  obtain ⟨a2, h2⟩ := st_obj (hts _ (st_ao RX0 (by simp only [aoW, List.mem_cons, true_or, or_true])))
  obtain ⟨a3, h3⟩ := st_obj (hts _ (st_ao RX1 (by simp only [aoW, List.mem_cons, true_or, or_true])))
  obtain ⟨a4, h4⟩ := st_obj (hts _ (st_ao RX2 (by simp only [aoW, List.mem_cons, true_or, or_true])))
  obtain ⟨a5, h5⟩ := st_obj (hts _ (st_ao RX4 (by simp only [aoW, List.mem_cons, true_or, or_true])))
  obtain ⟨a6, h6⟩ := st_obj (hts _ (st_ao RX5 (by simp only [aoW, List.mem_cons, true_or, or_true])))
  obtain ⟨a7, h7⟩ := st_obj (hts _ (st_ao RX6 (by simp only [aoW, List.mem_cons, true_or, or_true])))
  obtain ⟨a8, h8⟩ := st_obj (hts _ (st_ao RX7 (by simp only [aoW, List.mem_cons, true_or, or_true])))
  refine ⟨(fun k => [c0, c1, c2, c3, c4, c5, c6, c7, c8].getD k 0, fun k => [i0, i1, i2, i3, i4, i5, i6, i7, i8].getD k (fun _ => 0)), fun k => [a0, a1, a2, a3, a4, a5, a6, a7, a8].getD k 0, fun k q hq => ?_, fun k q hq => ?_⟩
  · match k, hq with
    | 0, hq => cases hq; exact k0
    | 1, hq => cases hq; exact k1
    | 2, hq => cases hq; exact k2
    | 3, hq => cases hq; exact k3
    | 4, hq => cases hq; exact k4
    | 5, hq => cases hq; exact k5
    | 6, hq => cases hq; exact k6
    | 7, hq => cases hq; exact k7
    | 8, hq => cases hq; exact k8
    | k + 9, hq => exact absurd hq (by simp [vwCl])
  · match k, hq with
    | 0, hq => cases hq; exact h0
    | 1, hq => cases hq; exact h1
    | 2, hq => cases hq; exact h2
    | 3, hq => cases hq; exact h3
    | 4, hq => cases hq; exact h4
    | 5, hq => cases hq; exact h5
    | 6, hq => cases hq; exact h6
    | 7, hq => cases hq; exact h7
    | 8, hq => cases hq; exact h8
    | k + 9, hq => exact absurd hq (by simp [tysC])

theorem st_sa {args : Array Value} {s : State} (hts : ∀ w ∈ lw_tbl, w.before args s = true) (hg : ∀ q ∈ strW, (Cond.exactly (.string RX8 q.1) "java/lang/String").before args s = true) : ∃ sa : Nat → Nat, ∀ q ∈ strW, vk_R RX8 q.1 q.2 (sa q.1) s := by
  classical
  refine ⟨fun k => if h : ∃ a : Nat, (Term.string RX8 k).eval args s none [] s = some (.ref a) then h.choose else 0, fun q hq => ?_⟩
  have hex : ∃ a : Nat, (Term.string RX8 q.1).eval args s none [] s = some (.ref a) := by
    obtain ⟨a, c, cA, kA, q1, -⟩ := Cond.exactly_spec (args := args) (first := s) (o := none) (s := s) (idx := []) (hg q hq)
    exact ⟨a, q1⟩
  refine vk_R.of (hts _ (st_str q hq)) ?_
  dsimp only
  rw [dif_pos hex]
  exact hex.choose_spec
set_option maxRecDepth 20000 in
theorem st_ex : ∀ q ∈ strW, ∀ (args : Array Value) (s : State), (Jvm.Cond.and given_1 narrow_1).before args s = true → (Cond.exactly (.string RX8 q.1) "java/lang/String").before args s = true := by
  intro q hq args s h
  have hs := flat_of_before _ h
  simp only [strW, List.mem_cons, List.not_mem_nil, or_false] at hq
  rcases hq with rfl | rfl | rfl | rfl | rfl | rfl | rfl | rfl | rfl | rfl | rfl | rfl <;> exact hs _ (by decide +kernel)
set_option maxRecDepth 20000 in
theorem lw_E {p : Program} {s : State} {m : MethodId} {meth : Method} {c : Code} {b L : Nat} {xs : Nat → Int32} (C0 : lw_At p s m meth c b L xs) : ∃ (D : va_G) (y : Nat → ClassId) (sa : Nat → Nat), fw_E D (fun q => s.heap.size ≤ q) y sa s := by
  obtain ⟨hx, hb, hr, hml, hown, hts, hX, hbl, hlocks, hgv⟩ := C0
  have hs := flat_of_before _ hgv
  obtain ⟨D, y, hK⟩ := st_K hts
  obtain ⟨sa, hsa⟩ := st_sa hts (fun q hq => st_ex q hq _ s hgv)
  have hA : ∀ a : Nat, a < s.heap.size → ¬ (fun q => s.heap.size ≤ q) a := fun a h => Nat.not_le.mpr h
  have hn : ∀ w ∈ dNW, va_Nw w s := fun w hw => va_Nw.of (st_nw w hw).2 (hts w (st_nw w hw).1)
  have hne : ∀ q ∈ nestW, va_Nw (.methodLinkNest RX8 q.1 q.2 RX8) s := fun q hq => va_Nw.of (st_nest q hq).2 (hts _ (st_nest q hq).1)
  have n1 : va_Nc nIAE nIOB s := va_Nc.of (hs _ (by decide +kernel))
  have n2 : va_Nc nISE nIOB s := va_Nc.of (hs _ (by decide +kernel))
  have n3 : va_Nc nISE nIAE s := va_Nc.of (hs _ (by decide +kernel))
  have z1 : vx_Zq Bundle.tN "UNASSIGNED_STACK" Bundle.steD (fun q => s.heap.size ≤ q) s s.heap := vx_Zqof (hts _ (st_stat _ (by simp only [List.mem_cons, true_or, or_true]))) (hts _ (st_stat _ (by simp only [List.mem_cons, true_or, or_true]))) (hs _ (by decide +kernel)) hA
  have z2 : vx_Zq Bundle.tN "SUPPRESSED_SENTINEL" Bundle.listD (fun q => s.heap.size ≤ q) s s.heap := vx_Zqof (hts _ (st_stat _ (by simp only [List.mem_cons, true_or, or_true]))) (hts _ (st_stat _ (by simp only [List.mem_cons, true_or, or_true]))) (hs _ (by decide +kernel)) hA
  exact ⟨D, y, sa, ⟨hK, fun c hc => va_AO.of (hts _ (st_ao c hc)), hn, hne, hsa, n1, n2, n3⟩, fun q h => h, z1, z2⟩
/-! the script's cells -/
set_option maxHeartbeats 4000000 in
set_option maxRecDepth 100000 in
theorem c_L_cell (l : Launch) (b L k : Nat) (xs : Nat → Int32) (hL : L ≤ 260) (hk : k < 1000) : Met l yL_cell wsL_cell ({ frames := 0, cells := 0, slots := 0, locals := 0 } : Room) (va_Pc [.ref b, .int (nI k)] (fun U => va_X b L xs U U.heap ∧ b < U.heap.size)) (va_Qi (fun _ _ => True) (fun (_ : Unit) _ => True) (fun _ => False)) 0 0 (fun _ => False) := by
  refine Met.ofW (cc := cL_cell) (maxL := 2) (ret := some .int) (by decide) rfl ?_
  intro p e s m args below meth c s₁ B hml hv
  obtain ⟨rfl, hX, hbl⟩ := hv
  rw [lg_entry_eq]
  have hl := lv_entry ([.ref b, .int (nI k)]) (n := 2) (Nat.le_of_ble_eq_true rfl)
  generalize (lg_sl ([.ref b, .int (nI k)]) ++ List.replicate (2 - (lg_sl ([.ref b, .int (nI k)])).length) Slot.unset).toArray = ls at hl ⊢
  have hl : lv_has ls 2 [(0, .ref b), (1, .int (nI k))] := hl
  have hx := B.exec
  have hb : c.code = cL_cell := B.bytes
  have hr : meth.sig.returnType = some .int := B.returns
  have hlocks := B.notSynchronized
  have hS : va_S (fun _ => False) s.heap s.heap [] := va_S.rf
  have fin : ∀ (v : Int32) (ls : Array Slot), W p l e (headSpec wsL_cell ({ frames := 0, cells := 0, slots := 0, locals := 0 } : Room)).room s m [Value.ref b, Value.int (nI k)].toArray below meth c s.heap [] 0 0 (MQ below (va_Qi (fun _ _ => True) (fun (_ : Unit) _ => True) (fun _ => False)) [Value.ref b, Value.int (nI k)].toArray s 0 0 (fun _ => False)) (F0 m 27 ls [.int v]) := fun v ls =>
    W.widen (Nat.le_refl _) (Nat.le_refl _) (W.iret hx hb hr (fun t ht hW => ⟨⟨v, (), rfl, trivial, trivial⟩, hS.F ht⟩) hS.2.2 dL_cell_27 hlocks)
  refine lv_iload_n hx hb dL_cell_0 rfl (lv_at hl 1 rfl) ?_
  refine lv_aload_n hx hb dL_cell_1 rfl (lv_at hl 0 rfl) ?_
  refine va_slen hx hb hX hbl (fun q => q) hS dL_cell_2 ?_
  refine lv_icmp_ge (tgt := 12) hx hb dL_cell_3 (by decide) (fun z => ?_) (fun z => ?_)
  · refine lv_sipush (v := 7919) hx hb dL_cell_12 (by decide) ?_
    refine lv_iload_n hx hb dL_cell_15 rfl (lv_at hl 1 rfl) ?_
    refine lv_sipush (v := 701) hx hb dL_cell_16 (by decide) ?_
    refine lv_iadd hx hb dL_cell_19 ?_
    refine lv_imul hx hb dL_cell_20 ?_
    refine lv_iload_n hx hb dL_cell_21 rfl (lv_at hl 1 rfl) ?_
    refine lv_sipush (v := 3067) hx hb dL_cell_22 (by decide) ?_
    refine lv_iadd hx hb dL_cell_25 ?_
    refine lv_imul hx hb dL_cell_26 ?_
    exact fin _ _
  · have hkL : k < L := by
      rcases Nat.lt_or_ge k L with q | q
      · exact q
      · exact absurd (show Int32.ofNat L ≤ nI k from nI_le q (by omega)) z
    refine lv_aload_n hx hb dL_cell_6 rfl (lv_at hl 0 rfl) ?_
    refine lv_iload_n hx hb dL_cell_7 rfl (lv_at hl 1 rfl) ?_
    refine va_sld hx hb hX hbl (fun q => q) hS (vp_in_nI hkL (by omega)) dL_cell_8 ?_
    refine lv_goto (tgt := 27) hx hb dL_cell_9 (by decide) ?_
    exact fin _ _
section CLL
variable {p : Program} {l : Launch} {e : Env} {R : Room} {s : State} {m : MethodId} {args : Array Value} {below : List Frame} {meth : Method} {c : Code} {H : Heap} {locs : List Loc} {cells slots : Nat} {Q : State → Prop}
variable {cc : ByteArray} {pc : Nat} {ls : Array Slot} {D : va_G} {A : Nat → Prop} {f : fw_F} {own : String} {Ts : List Cond} {nL index b L k : Nat} {xs : Nat → Int32}
theorem fw_callCell (hx : p.tables.exec = Jvm.exec) (hb : c.code = cc) (hml : c.maxLocals = nL) (hown : s.vm.findClass own = some m.cls) (hts : ∀ w ∈ Ts, w.before args s = true) (hw : fw_S D A s.heap f H locs) (hX : va_X b L xs s s.heap) (hbl : b < s.heap.size) (hbA : ¬ A b) (hL : L ≤ 260) (hk : k < 1000)
    (rest : List Value) (cw : CallB R s args own index yL_cell cL_cell 2 (some .int) wsL_cell ({ frames := 0, cells := 0, slots := 0, locals := 0 } : Room) 0 0 2 ∧ (Cond.static yL_cell).before args s = true)
    (hsize : ls.size = nL) (hW : (rest.map fun v => v.category).sum ≤ 8) (hdg : decode cc pc = .ok (.invokestatic index, 3)) (hcr : cells + 0 ≤ R.cells ∧ slots + 0 ≤ R.slots)
    (kk : ∀ (r : Int32) (H1 : Heap) (locs1 : List Loc), fw_S D A s.heap f H1 locs1 → W p l e R s m args below meth c H1 locs1 (cells + 0) (slots + 0) Q (F0 m (pc + 3) ls (.int r :: rest))) : W p l e R s m args below meth c H locs cells slots Q (F0 m pc ls (.int (nI k) :: .ref b :: rest)) := by
  have hM := c_L_cell l b L k xs hL hk
  have hXH : va_X b L xs s H := hX.kept (hw.2.2.1 b hbl hbA)
  have hbH : b < H.size := Nat.lt_of_lt_of_le hbl hw.2.1
  have pre : PreS s H (va_Pc [.ref b, .int (nI k)] (fun U => va_X b L xs U U.heap ∧ b < U.heap.size)) [.ref b, .int (nI k)] := by
    refine ⟨fun a U g mk q => ⟨q.1, va_X.moved (State.WarmedH.refl U).alike q.2.1, q.2.2⟩, fun U hU hW => ⟨rfl, ?_, ?_⟩⟩
    · rw [hU]; exact va_X.moved hW.alike hXH
    · rw [hU]; exact hbH
  exact va_calli (A0 := A) (va_runS (As := [.ref b, .int (nI k)]) (rest := rest) ⟨hx, hb, hml, hown, hts⟩ hM cw pre rfl rfl hsize rfl (lv_room hW) hdg hcr) hw.2 (fun q _ h => h.elim) (fun q h => h.elim)
    (fun r u t H1 locs1 ht _ _ _ _ hk hS => kk r H1 locs1 ⟨hw.1.kept (fun a e ha => hk a (hw.1.lt ha) (fun z => z)), hS⟩)
end CLL
