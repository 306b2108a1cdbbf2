/-! THE CLAIM OUT OF ONE WALK OF THE LAW'S BODY. Your part is whole_start (and what it stands on); all else here is the same for every law, but numbers. -/
def R_law : String := "CrewPayLaw"
def lw_P (b : Addr) (xs : List Int32) (args : Array Value) (s : State) : Prop := args = #[.ref b] ∧ s.IntsAt b xs ∧ xs.length ≤ 3072 ∧ (Jvm.Cond.and given_1 narrow_1).before args s = true
def lw_Q (_ : Array Value) (s : State) (o : Outcome) (t : State) : Prop := o = .returned (some (.int 1)) ∧ Framed s o t [] 601024 7293033
def lw_Z (below : List Frame) (a : Array Value) (s : State) : State → Prop := fun t => ∃ o, t.status = .running ∧ Ended t below o ∧ lw_Q a s o t
/-- the law's own end, with 1 on the stack, nothing written that was there before, its room as the claim has it -/
theorem lw_ret {p : Program} {l : Launch} {e : Env} {s : State} {m : MethodId} {below : List Frame} {meth : Method} {c : Code} {b : Nat} (hx : p.tables.exec = Jvm.exec) (hb : c.code = code) (hr : meth.sig.returnType = ret) (hlocks : meth.locks = false) {pc : Nat} {H : Heap} {ls : Array Slot} (hdg : decode code pc = .ok (.ireturn, 1)) : W p l e room_1 s m #[Value.ref b] below meth c H [] 601024 7293033 (lw_Z below #[Value.ref b] s) (F0 m pc ls [.int 1]) := by
  intro T hT X
  obtain ⟨fs, hret, hrun, hended, hW, hframe⟩ := X.leave (v := some (.int 1)) (hlocks := hlocks) (fun h => by rw [hr] at h; cases h)
  have hmeth' : T.vm.method? m = some meth := X.method'
  refine ⟨T.setFrames fs, ?_, .returned (some (.int 1)), hrun, hended, rfl, ⟨_, rfl⟩, hW, hframe⟩
  jvm_step X.here [X.here.top, hx, hb, hdg, hmeth', hr, ret, narrow_b1]
  (try refine ⟨rfl, ?_⟩); (try refine ⟨rfl, ?_⟩)
  first | (intro acts; rw [hret _ acts rfl rfl rfl]) | rw [hret _ _ rfl rfl rfl]
  exact Steps.refl _
/-- what holds at the law's entry: the machine, the code, the tables' words (any of lw_tbl by 'hts w (by decide +kernel)'), the script of L ints xs at the cell b, what the Statement gives of the start (any of its parts by flat_of_before) -/
def lw_At (p : Program) (s : State) (m : MethodId) (meth : Method) (c : Code) (b L : Nat) (xs : Nat → Int32) : Prop :=
  p.tables.exec = Jvm.exec ∧ c.code = code ∧ meth.sig.returnType = ret ∧ c.maxLocals = 7 ∧ s.vm.findClass R_law = some m.cls ∧ (∀ w ∈ lw_tbl, w.before #[Value.ref b] s = true) ∧ va_X b L xs s s.heap ∧ b < s.heap.size ∧ meth.locks = false ∧ (Jvm.Cond.and given_1 narrow_1).before #[Value.ref b] s = true
/-! THE START: the machine's words that every contract takes, out of the tables and of what the Statement gives -/
theorem st_int {args : Array Value} {s : State} (h : (Cond.arrayClass .int).before args s = true) : ∃ c, ArrOfT s c .int ∧ va_RA s c .int := by
  obtain ⟨c, k, comp, h1, h2, h3⟩ := Cond.arrayClass_spec h
  exact ⟨c, fun N z => ⟨(fun k h => by cases h), k, h2, comp, h3⟩, h1⟩
theorem st_bool {args : Array Value} {s : State} (h : (Cond.arrayClass .boolean).before args s = true) : ∃ c, ArrOfT s c .boolean ∧ va_RA s c .boolean := by
  obtain ⟨c, k, comp, h1, h2, h3⟩ := Cond.arrayClass_spec h
  exact ⟨c, fun N z => ⟨(fun k h => by cases h), k, h2, comp, h3⟩, h1⟩
theorem st_long {args : Array Value} {s : State} (h : (Cond.arrayClass .long).before args s = true) : ∃ c, ArrOfT s c .long ∧ va_RA s c .long := by
  obtain ⟨c, k, comp, h1, h2, h3⟩ := Cond.arrayClass_spec h
  exact ⟨c, fun N z => ⟨(fun k h => by cases h), k, h2, comp, h3⟩, h1⟩
theorem st_obj {args : Array Value} {s : State} {C : String} (h : (Cond.arrayOver (.object C)).before args s = true) : ∃ c, ArrOfT s c (.object C) ∧ va_RA s c (.object C) := by
  obtain ⟨comp, c, k, h1, h2, h3, h4, h5⟩ := Cond.arrayOver_spec h
  exact ⟨c, fun N z => ⟨(fun k h => by cases h), k, h3, comp, h4⟩, k, comp, h3, h4, h1, h5⟩
set_option maxRecDepth 20000 in
theorem st_ins : ∀ q ∈ vwCl, Cond.instantiable q.1 q.2.2 ∈ lw_tbl := by
  have h : ∀ w ∈ ([.instantiable RX0 4, .instantiable RX1 2, .instantiable RX2 2, .instantiable RX3 2, .instantiable RX4 3, .instantiable RX5 4, .instantiable RX6 3, .instantiable RX7 8, .instantiable RX8 10, .instantiable RX9 25] : List Cond), w ∈ lw_tbl := by decide +kernel
  intro q hq
  simp only [vwCl, List.mem_cons, List.not_mem_nil, or_false] at hq
  rcases hq with rfl | rfl | rfl | rfl | rfl | rfl | rfl | rfl | rfl | rfl <;> exact h _ (by simp only [List.mem_cons, true_or, or_true])
set_option maxRecDepth 20000 in
theorem st_arr : ∀ w ∈ ([.arrayClass .int, .arrayClass .boolean, .arrayClass .long] : List Cond), w ∈ lw_tbl := by decide +kernel
set_option maxRecDepth 20000 in
theorem st_ao : ∀ c ∈ aoW, Cond.arrayOver (.object c) ∈ lw_tbl := by decide +kernel
set_option maxRecDepth 20000 in
theorem st_nw : ∀ w ∈ dNW, w ∈ lw_tbl ∧ w.onTables = true := by decide +kernel
set_option maxRecDepth 20000 in
theorem st_nest : ∀ q ∈ nestW, Cond.methodLinkNest RX8 q.1 q.2 RX8 ∈ lw_tbl ∧ (Cond.methodLinkNest RX8 q.1 q.2 RX8).onTables = true := by decide +kernel
set_option maxRecDepth 20000 in
theorem st_str : ∀ q ∈ strW, Cond.stringRef RX8 q.1 q.2 ∈ lw_tbl := by decide +kernel
set_option maxRecDepth 20000 in
theorem st_stat : ∀ w ∈ ([.laysStatic Bundle.tN "UNASSIGNED_STACK" Bundle.steD, .laysStatic Bundle.tN "SUPPRESSED_SENTINEL" Bundle.listD, .initialized Bundle.tN] : List Cond), w ∈ lw_tbl := by decide +kernel
theorem st_K {args : Array Value} {s : State} (hts : ∀ w ∈ lw_tbl, w.before args s = true) : ∃ (D : va_G) (y : Nat → ClassId), va_K D vwCl (tysC y) s := by
  obtain ⟨c0, i0, k0⟩ := u_known (C := RX0) (T := TX0) (N := 4) (n := 4) hts inX0 (hts _ (st_ins (RX0, TX0, 4) (by simp only [vwCl, List.mem_cons, true_or, or_true])))
  obtain ⟨c1, i1, k1⟩ := u_known (C := RX1) (T := TX1) (N := 2) (n := 2) hts inX1 (hts _ (st_ins (RX1, TX1, 2) (by simp only [vwCl, List.mem_cons, true_or, or_true])))
  obtain ⟨c2, i2, k2⟩ := u_known (C := RX2) (T := TX2) (N := 2) (n := 2) hts inX2 (hts _ (st_ins (RX2, TX2, 2) (by simp only [vwCl, List.mem_cons, true_or, or_true])))
  obtain ⟨c3, i3, k3⟩ := u_known (C := RX3) (T := TX3) (N := 2) (n := 2) hts inX3 (hts _ (st_ins (RX3, TX3, 2) (by simp only [vwCl, List.mem_cons, true_or, or_true])))
  obtain ⟨c4, i4, k4⟩ := u_known (C := RX4) (T := TX4) (N := 3) (n := 3) hts inX4 (hts _ (st_ins (RX4, TX4, 3) (by simp only [vwCl, List.mem_cons, true_or, or_true])))
  obtain ⟨c5, i5, k5⟩ := u_known (C := RX5) (T := TX5) (N := 4) (n := 4) hts inX5 (hts _ (st_ins (RX5, TX5, 4) (by simp only [vwCl, List.mem_cons, true_or, or_true])))
  obtain ⟨c6, i6, k6⟩ := u_known (C := RX6) (T := TX6) (N := 3) (n := 3) hts inX6 (hts _ (st_ins (RX6, TX6, 3) (by simp only [vwCl, List.mem_cons, true_or, or_true])))
  obtain ⟨c7, i7, k7⟩ := u_known (C := RX7) (T := TX7) (N := 8) (n := 8) hts inX7 (hts _ (st_ins (RX7, TX7, 8) (by simp only [vwCl, List.mem_cons, true_or, or_true])))
  obtain ⟨c8, i8, k8⟩ := u_known (C := RX8) (T := TX8) (N := 10) (n := 10) hts inX8 (hts _ (st_ins (RX8, TX8, 10) (by simp only [vwCl, List.mem_cons, true_or, or_true])))
  obtain ⟨c9, i9, k9⟩ := u_known (C := RX9) (T := TX9) (N := 25) (n := 25) hts inX9 (hts _ (st_ins (RX9, TX9, 25) (by simp only [vwCl, List.mem_cons, true_or, or_true])))
  obtain ⟨a0, h0⟩ := st_int (hts _ (st_arr _ (by simp only [List.mem_cons, true_or, or_true])))
  obtain ⟨a1, h1⟩ := st_bool (hts _ (st_arr _ (by simp only [List.mem_cons, true_or, or_true])))
  obtain ⟨a9, h9⟩ := st_long (hts _ (st_arr _ (by simp only [List.mem_cons, true_or, or_true])))
  obtain ⟨a2, h2⟩ := st_obj (hts _ (st_ao RX0 (by simp only [aoW, List.mem_cons, true_or, or_true])))
  obtain ⟨a3, h3⟩ := st_obj (hts _ (st_ao RX1 (by simp only [aoW, List.mem_cons, true_or, or_true])))
  obtain ⟨a4, h4⟩ := st_obj (hts _ (st_ao RX2 (by simp only [aoW, List.mem_cons, true_or, or_true])))
  obtain ⟨a5, h5⟩ := st_obj (hts _ (st_ao RX4 (by simp only [aoW, List.mem_cons, true_or, or_true])))
  obtain ⟨a6, h6⟩ := st_obj (hts _ (st_ao RX5 (by simp only [aoW, List.mem_cons, true_or, or_true])))
  obtain ⟨a7, h7⟩ := st_obj (hts _ (st_ao RX6 (by simp only [aoW, List.mem_cons, true_or, or_true])))
  obtain ⟨a8, h8⟩ := st_obj (hts _ (st_ao RX7 (by simp only [aoW, List.mem_cons, true_or, or_true])))
  refine ⟨(fun k => [c0, c1, c2, c3, c4, c5, c6, c7, c8, c9].getD k 0, fun k => [i0, i1, i2, i3, i4, i5, i6, i7, i8, i9].getD k (fun _ => 0)), fun k => [a0, a1, a2, a3, a4, a5, a6, a7, a8, a9].getD k 0, fun k q hq => ?_, fun k q hq => ?_⟩
  · match k, hq with
    | 0, hq => cases hq; exact k0
    | 1, hq => cases hq; exact k1
    | 2, hq => cases hq; exact k2
    | 3, hq => cases hq; exact k3
    | 4, hq => cases hq; exact k4
    | 5, hq => cases hq; exact k5
    | 6, hq => cases hq; exact k6
    | 7, hq => cases hq; exact k7
    | 8, hq => cases hq; exact k8
    | 9, hq => cases hq; exact k9
    | k + 10, hq => exact absurd hq (by simp [vwCl])
  · match k, hq with
    | 0, hq => cases hq; exact h0
    | 1, hq => cases hq; exact h1
    | 2, hq => cases hq; exact h2
    | 3, hq => cases hq; exact h3
    | 4, hq => cases hq; exact h4
    | 5, hq => cases hq; exact h5
    | 6, hq => cases hq; exact h6
    | 7, hq => cases hq; exact h7
    | 8, hq => cases hq; exact h8
    | 9, hq => cases hq; exact h9
    | k + 10, hq => exact absurd hq (by simp [tysC])

theorem st_sa {args : Array Value} {s : State} (hts : ∀ w ∈ lw_tbl, w.before args s = true) (hg : ∀ q ∈ strW, (Cond.exactly (.string RX8 q.1) "java/lang/String").before args s = true) : ∃ sa : Nat → Nat, ∀ q ∈ strW, vk_R RX8 q.1 q.2 (sa q.1) s := by
  classical
  refine ⟨fun k => if h : ∃ a : Nat, (Term.string RX8 k).eval args s none [] s = some (.ref a) then h.choose else 0, fun q hq => ?_⟩
  have hex : ∃ a : Nat, (Term.string RX8 q.1).eval args s none [] s = some (.ref a) := by
    obtain ⟨a, c, cA, kA, q1, -⟩ := Cond.exactly_spec (args := args) (first := s) (o := none) (s := s) (idx := []) (hg q hq)
    exact ⟨a, q1⟩
  refine vk_R.of (hts _ (st_str q hq)) ?_
  dsimp only
  rw [dif_pos hex]
  exact hex.choose_spec
set_option maxRecDepth 20000 in
theorem st_ex : ∀ q ∈ strW, ∀ (args : Array Value) (s : State), (Jvm.Cond.and given_1 narrow_1).before args s = true → (Cond.exactly (.string RX8 q.1) "java/lang/String").before args s = true := by
  intro q hq args s h
  have hs := flat_of_before _ h
  simp only [strW, List.mem_cons, List.not_mem_nil, or_false] at hq
  rcases hq with rfl | rfl | rfl | rfl | rfl | rfl | rfl | rfl | rfl | rfl | rfl | rfl <;> exact hs _ (by decide +kernel)
set_option maxRecDepth 20000 in
theorem lw_E {p : Program} {s : State} {m : MethodId} {meth : Method} {c : Code} {b L : Nat} {xs : Nat → Int32} (C0 : lw_At p s m meth c b L xs) : ∃ (D : va_G) (y : Nat → ClassId) (sa : Nat → Nat), fw_E D (fun q => s.heap.size ≤ q) y sa s := by
  obtain ⟨hx, hb, hr, hml, hown, hts, hX, hbl, hlocks, hgv⟩ := C0
  have hs := flat_of_before _ hgv
  obtain ⟨D, y, hK⟩ := st_K hts
  obtain ⟨sa, hsa⟩ := st_sa hts (fun q hq => st_ex q hq _ s hgv)
  have hA : ∀ a : Nat, a < s.heap.size → ¬ (fun q => s.heap.size ≤ q) a := fun a h => Nat.not_le.mpr h
  have hn : ∀ w ∈ dNW, va_Nw w s := fun w hw => va_Nw.of (st_nw w hw).2 (hts w (st_nw w hw).1)
  have hne : ∀ q ∈ nestW, va_Nw (.methodLinkNest RX8 q.1 q.2 RX8) s := fun q hq => va_Nw.of (st_nest q hq).2 (hts _ (st_nest q hq).1)
  have n1 : va_Nc nIAE nIOB s := va_Nc.of (hs _ (by decide +kernel))
  have n2 : va_Nc nISE nIOB s := va_Nc.of (hs _ (by decide +kernel))
  have n3 : va_Nc nISE nIAE s := va_Nc.of (hs _ (by decide +kernel))
  have z1 : vx_Zq Bundle.tN "UNASSIGNED_STACK" Bundle.steD (fun q => s.heap.size ≤ q) s s.heap := vx_Zqof (hts _ (st_stat _ (by simp only [List.mem_cons, true_or, or_true]))) (hts _ (st_stat _ (by simp only [List.mem_cons, true_or, or_true]))) (hs _ (by decide +kernel)) hA
  have z2 : vx_Zq Bundle.tN "SUPPRESSED_SENTINEL" Bundle.listD (fun q => s.heap.size ≤ q) s s.heap := vx_Zqof (hts _ (st_stat _ (by simp only [List.mem_cons, true_or, or_true]))) (hts _ (st_stat _ (by simp only [List.mem_cons, true_or, or_true]))) (hs _ (by decide +kernel)) hA
  exact ⟨D, y, sa, ⟨hK, fun c hc => va_AO.of (hts _ (st_ao c hc)), hn, hne, hsa, n1, n2, n3⟩, fun q h => h, z1, z2⟩
