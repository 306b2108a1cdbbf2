/-! THE LAW'S STEP: what stands between two steps, and the end of a step -/
def lwI (y : Nat → ClassId) (o x0 : Nat) (β : Nat → Nat) (f1 f2 : fw_F) : Prop := ∃ μ κ nw no nt wk α fc gl, Sim μ κ nw no nt wk ∧ Rc y nw no nt wk κ α fc ∧ α 0 0 0 = x0 ∧ Rm y μ β f2 ∧ fw_dis fc (oC y o gl) ∧ f1 = fw_or fc (oC y o gl)
theorem mT.I {y : Nat → ClassId} {o x0 : Nat} {β : Nat → Nat} {k b : Int32} {f1 f2 : fw_F} (h : mT y o x0 β k b f1 f2) : lwI y o x0 β f1 f2 := by
  obtain ⟨μ, κ, nw, no, nt, wk, α, fc, gl, h1, h2, h3, h4, h5, h6, -⟩ := h
  exact ⟨μ, κ, nw, no, nt, wk, α, fc, gl, h1, h2, h3, h4, h5, h6⟩
theorem cmp_eq {x y : Int64} (h : x = y) : lg_cmp x y = 0 := by
  subst h
  simp [lg_cmp]
section LWT
variable {p : Program} {l : Launch} {e : Env} {R : Room} {s : State} {m : MethodId} {args : Array Value} {below : List Frame} {meth : Method} {c : Code} {H : Heap} {locs : List Loc} {cells slots : Nat} {Q : State → Prop}
variable {cc : ByteArray} {pc : Nat} {ls : Array Slot} {st0 : List Value} {D : va_G} {A : Nat → Prop} {f g : fw_F} {own : String} {Ts : List Cond}
variable {y : Nat → ClassId} {sa : Nat → Nat} {yy : MethodName} {bytes : ByteArray} {maxL nL mc ms n index : Nat} {ret : Option FieldType} {ws : List Cond} {rm : Room}
theorem fw_callSWiN {post : Int32 → fw_F → Prop} {hh : List (Nat × Nat × Nat × Nat)} (hx : p.tables.exec = Jvm.exec) (hb : c.code = cc) (hml : c.maxLocals = nL) (hown : s.vm.findClass own = some m.cls) (hts : ∀ w ∈ Ts, w.before args s = true) (hE : fw_E D A y sa s) (hw : fw_S D A s.heap (fw_or f g) H locs) (hd : fw_dis f g)
    (As : List Value) (rest : List Value) (hM : Met l yy ws rm (cPc D (fw_A A g) y sa f As) (cQi D (fw_A A g) post) mc ms (fw_A A g)) (cw : vx_CSW R s args own index yy bytes maxL ret hh ws rm mc ms n)
    (hn : As.length = n) (hsize : ls.size = nL) (hst : st0 = As.reverse ++ rest) (hW : (rest.map fun v => v.category).sum ≤ 8) (hdg : decode cc pc = .ok (.invokestatic index, 3)) (hcr : cells + mc ≤ R.cells ∧ slots + ms ≤ R.slots)
    (kk : ∀ (r : Int32) (f1 : fw_F) (H1 : Heap) (locs1 : List Loc), post r f1 → fw_dis f1 g → fw_S D A s.heap (fw_or f1 g) H1 locs1 → W p l e R s m args below meth c H1 locs1 (cells + mc) (slots + ms) Q (F0 m (pc + 3) ls (.int r :: rest))) : W p l e R s m args below meth c H locs cells slots Q (F0 m pc ls st0) :=
  fw_callSWi hx hb hml hown hts (fw_preSN hE hw hd) hw.2 (fun q h => h.1) rest hM cw hn hsize hst hW hdg hcr (fun r f1 H1 locs1 hp hP1 hz hk hS => kk r f1 H1 locs1 hp (hP1.join (fw_left_stands (hw.1.right hd) hz hk)).2 ⟨(hP1.join (fw_left_stands (hw.1.right hd) hz hk)).1, hS⟩)
end LWT
set_option maxHeartbeats 4000000 in
/-- both have answered: the law compares, and goes on -/
theorem lw_tail {p : Program} {e : Env} {s : State} {m : MethodId} {below : List Frame} {meth : Method} {c : Code} {l : Launch} {b L : Nat} {xs : Nat → Int32} {D : va_G} {y : Nat → ClassId} {sa : Nat → Nat} (C0 : lw_At p s m meth c b L xs) (hE : fw_E D (fun q => s.heap.size ≤ q) y sa s)
    {i o x0 P off : Nat} {β : Nat → Nat} {k bv : Int32} {f1 f2 : fw_F} (hm : mT y o x0 β k bv f1 f2) (hd : fw_dis f2 f1) {H : Heap} {locs : List Loc} {ls : Array Slot} (hw : fw_S D (fun q => s.heap.size ≤ q) s.heap (fw_or f2 f1) H locs) (hl : lv_has ls 7 [(5, .int k), (4, .int (nI i)), (3, .ref o), (2, .ref (β 0)), (1, .ref x0), (0, .ref b)])
    {cells slots : Nat} (hcr : cells ≤ 601024 ∧ slots ≤ 7293033) {Q : State → Prop}
    (d0 : decode cL_law P = .ok (.istore 6, 2)) (d2 : decode cL_law (P + 2) = .ok (.aload_n 2, 1)) (d3 : decode cL_law (P + 3) = .ok (.invokevirtual 88, 3)) (d6 : decode cL_law (P + 6) = .ok (.iload 5, 2)) (d8 : decode cL_law (P + 8) = .ok (.if_icmp .eq 5, 3)) (d13 : decode cL_law (P + 13) = .ok (.iload 5, 2)) (d15 : decode cL_law (P + 15) = .ok (.ifCond .ne 15, 3)) (d18 : decode cL_law (P + 18) = .ok (.aload_n 3, 1)) (d19 : decode cL_law (P + 19) = .ok (.iconst 0, 1)) (d20 : decode cL_law (P + 20) = .ok (.laload, 1)) (d21 : decode cL_law (P + 21) = .ok (.iload 6, 2)) (d23 : decode cL_law (P + 23) = .ok (.i2l, 1)) (d24 : decode cL_law (P + 24) = .ok (.lcmp, 1)) (d25 : decode cL_law (P + 25) = .ok (.ifCond .eq 5, 3)) (d30 : decode cL_law (P + 30) = .ok (.goto (off : Int), 3)) (hto : P + 30 + off = 1429)
    (IH : ∀ (g1 g2 : fw_F) (H : Heap) (locs : List Loc) (ls : Array Slot), lwI y o x0 β g1 g2 → fw_dis g1 g2 → fw_S D (fun q => s.heap.size ≤ q) s.heap (fw_or g1 g2) H locs → lv_has ls 7 [(4, .int (nI i)), (3, .ref o), (2, .ref (β 0)), (1, .ref x0), (0, .ref b)] → W p l e room_1 s m #[Value.ref b] below meth c H locs cells slots Q (F0 m 1429 ls [])) :
    W p l e room_1 s m #[Value.ref b] below meth c H locs cells slots Q (F0 m P ls [.int bv]) := by
  obtain ⟨hx, hb, hr, hml, hown, hts0, hX, hbl, hlocks, hgv⟩ := C0
  have hown : s.vm.findClass RL = some m.cls := hown
  have hts : ∀ w ∈ wsL_law, w.before #[Value.ref b] s = true := fun w h => hts0 w (wsL_law_in w h)
  have hI := hm.I
  obtain ⟨μ, κ, nw, no, nt, wk, α, fc, gl, hS, hRc, hα, hRm, hdo, hf1, hk, hgl⟩ := hm
  have hfo : f1 o = some (.inl (y 9, 1, .inr (.inl gl))) := by rw [hf1]; exact or_o hdo
  refine lv_istore (lv' := [(6, .int bv), (5, .int k), (4, .int (nI i)), (3, .ref o), (2, .ref (β 0)), (1, .ref x0), (0, .ref b)]) hx hb d0 hl (by decide) rfl (fun ls hl => ?_)
  refine lv_aload_n hx hb d2 rfl (lv_at hl 4 rfl) ?_
  refine fw_callViN hx hb hml hown hts hE hw hd [] [] (c_X9_thrown l D (fw_A (fun q => s.heap.size ≤ q) f1) y sa f2 β μ hRm) (cwV 0 hts gL_law_X9_thrown rfl rfl rfl (by decide +kernel) ⟨Nat.le_of_ble_eq_true rfl, Nat.le_of_ble_eq_true rfl⟩) (ci := 9) rfl rfl hRm.o rfl hl.1 rfl (Nat.le_of_ble_eq_true rfl) d3 hcr (fun r f3 H locs hp hd3 hw => ?_)
  obtain ⟨hp1, hp2⟩ := hp
  rw [hp2] at hw hd3
  rw [hp1, hk]
  refine lv_iload hx hb d6 (lv_at hl 1 rfl) ?_
  refine lv_icmp_eq (tgt := P + 13) hx hb d8 (by omega) (fun _ => ?_) (fun z => absurd rfl z)
  refine lv_iload hx hb d13 (lv_at hl 1 rfl) ?_
  have hgo : W p l e room_1 s m #[Value.ref b] below meth c H locs (cells + 0) (slots + 0) Q (F0 m (P + 30) ls []) := by
    refine lv_goto (tgt := 1429) hx hb d30 (by omega) ?_
    exact IH f1 f2 H locs ls hI hd3.symm (by rw [fw_or_c hd3.symm]; exact hw) (lv_sub hl [2, 3, 4, 5, 6] rfl)
  refine lv_if_ne (tgt := P + 30) hx hb d15 (by omega) (fun _ => hgo) (fun z => ?_)
  have hk0 : k = 0 := z
  refine lv_aload_n hx hb d18 rfl (lv_at hl 3 rfl) ?_
  refine lv_iconst (v := 0) hx hb d19 (by decide) ?_
  refine fw_lald hx hb hE.1.1 hw (g := gl) (by rw [fw_or_c hd3]; exact fw_or_l hfo) 9 rfl (by have z : vp_in (nI 0) 1 := vp_in_nI (by decide) (by decide); exact z) d20 ?_
  refine lv_iload hx hb d21 (lv_at hl 0 rfl) ?_
  refine lv_i2l (v := bv.toInt64) hx hb d23 rfl ?_
  refine W.lcmp hx hb d24 ?_
  rw [cmp_eq (show gl (0 : Int32).toNatClampNeg = bv.toInt64 from hgl hk0)]
  exact lv_if_eq (tgt := P + 30) hx hb d25 (by omega) (fun _ => hgo) (fun z => absurd rfl z)
