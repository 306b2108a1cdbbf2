/-! THE LAW'S SMALL METHODS -/
section SH
variable {p : Program} {l : Launch} {e : Env} {R : Room} {s : State} {m : MethodId} {args : Array Value} {below : List Frame} {meth : Method} {c : Code} {H : Heap} {locs : List Loc} {cells slots : Nat} {Q : State → Prop}
variable {cc : ByteArray} {pc : Nat} {ls : Array Slot} {st0 : List Value} {D : va_G} {A : Nat → Prop} {f : fw_F} {own : String} {Ts : List Cond}
variable {y : Nat → ClassId} {sa : Nat → Nat} {yy : MethodName} {bytes : ByteArray} {maxL nL mc ms n index : Nat} {ret : Option FieldType} {ws : List Cond} {rm : Room}
theorem fw_callSH {post : Int32 → fw_F → Prop} {hh : List (Nat × Nat × Nat × Nat)} (hx : p.tables.exec = Jvm.exec) (hb : c.code = cc) (hml : c.maxLocals = nL) (hown : s.vm.findClass own = some m.cls) (hts : ∀ w ∈ Ts, w.before args s = true) (hE : fw_E D A y sa s) (hw : fw_S D A s.heap f H locs)
    (As : List Value) (rest : List Value) (hM : Met l yy ws rm (cPc D A y sa f As) (cQi D A post) mc ms A) (cw : vx_CSW R s args own index yy bytes maxL ret hh ws rm mc ms n)
    (hn : As.length = n) (hsize : ls.size = nL) (hst : st0 = As.reverse ++ rest) (hW : (rest.map fun v => v.category).sum ≤ 8) (hdg : decode cc pc = .ok (.invokestatic index, 3)) (hcr : cells + mc ≤ R.cells ∧ slots + ms ≤ R.slots)
    (kk : ∀ (r : Int32) (f1 : fw_F) (H1 : Heap) (locs1 : List Loc), post r f1 → fw_S D A s.heap f1 H1 locs1 → W p l e R s m args below meth c H1 locs1 (cells + mc) (slots + ms) Q (F0 m (pc + 3) ls (.int r :: rest))) : W p l e R s m args below meth c H locs cells slots Q (F0 m pc ls st0) :=
  fw_callSWi hx hb hml hown hts (fw_preS hE hw) hw.2 (fun q h => h) rest hM cw hn hsize hst hW hdg hcr (fun r f1 H1 locs1 hp hP1 hz hk hS => kk r f1 H1 locs1 hp ⟨hP1, hS⟩)
end SH
def lowF (a n : Int32) : Int32 := (a &&& 2147483647) - (a &&& 2147483647) / n * n
set_option maxHeartbeats 4000000 in
set_option maxRecDepth 100000 in
/-- the law: low -/
theorem c_L_low (l : Launch) (D : va_G) (A : Nat → Prop) (y : Nat → ClassId) (sa : Nat → Nat) (f : fw_F) (p0 p1 : Int32) (hn : ¬ p1 = 0) : Met l yL_low wsL_low ({ frames := 0, cells := 0, slots := 0, locals := 0 } : Room) (cPc D A y sa f [.int p0, .int p1]) (cQi D A (fun r f1 => r = lowF p0 p1 ∧ f1 = f)) 0 0 A := by
  refine fw_met (by decide) rfl [.int p0, .int p1] (Nat.le_of_ble_eq_true rfl) ?_
  intro p e s m args below meth c ls I hin hE hw hl
  obtain ⟨hx, hb, hr, hts, hown, hlocks, hml⟩ := I
  have hown : s.vm.findClass RL = some m.cls := hown
  have hl : lv_has ls 2 [(0, .int p0), (1, .int p1)] := hl
  refine lv_iload_n hx hb dL_low_0 rfl (lv_at hl 0 rfl) ?_
  refine lv_ldc (own := RL) (v := 2147483647) hx hb hown (hts (.constant RL 7 (2147483647)) (by decide +kernel)) dL_low_1 ?_
  refine lv_iand hx hb dL_low_3 ?_
  refine lv_iload_n hx hb dL_low_4 rfl (lv_at hl 1 rfl) ?_
  refine lv_irem hx hb dL_low_5 hn ?_
  exact fw_iret hx hb hr hlocks hw (Nat.le_of_ble_eq_true rfl) (Nat.le_of_ble_eq_true rfl) dL_low_6 (⟨rfl, rfl⟩)

def doesF (how a b c d : Int32) (S : pS) : Option (Int32 × pS) := if how = 0 then addF a S else if how = 1 then rankF a b c S else if how = 2 then ratesF a b c d S else if how = 3 then corrF a b c d S else if how = 4 then orderF a b c d S else if how = 5 then floorF a S else if how = 6 then fillF a b S else if how = 7 then bncF a S else closeF S
set_option maxHeartbeats 4000000 in
set_option maxRecDepth 100000 in
/-- the law: does -/
theorem c_L_does (l : Launch) (D : va_G) (A : Nat → Prop) (y : Nat → ClassId) (sa : Nat → Nat) (f : fw_F) (hfl : l.stackTraces = false) (α : Nat → Nat → Nat → Nat) (S : pS) (how a b c_ d : Int32) (hN : nS S) (hI : IS S) (hR : RS y S α f) : Met l yL_does wsL_does ({ frames := 9, cells := 8, slots := 131, locals := 157 } : Room) (cPc D A y sa f [.ref (α 0 0 0), .int how, .int a, .int b, .int c_, .int d]) (cQi D A (dPo y f α (doesF how a b c_ d S))) 8 131 A := by
  refine fw_hmet (by decide) rfl [.ref (α 0 0 0), .int how, .int a, .int b, .int c_, .int d] (Nat.le_of_ble_eq_true rfl) ?_
  intro p e s m args below meth c ls I htab hE hw hl
  obtain ⟨hx, hb, hr, hts, hown, hlocks, hml⟩ := I
  have hown : s.vm.findClass RL = some m.cls := hown
  have hl : lv_has ls 7 [(0, .ref (α 0 0 0)), (1, .int how), (2, .int a), (3, .int b), (4, .int c_), (5, .int d)] := hl
  refine lv_iload_n hx hb dL_does_0 rfl (lv_at hl 1 rfl) ?_
  refine lv_if_ne (tgt := 12) hx hb dL_does_1 (by decide) (fun c_1 => ?_) (fun c_1 => ?_)
  · have h0 := c_1
    refine lv_iload_n hx hb dL_does_12 rfl (lv_at hl 1 rfl) ?_
    refine lv_iconst (v := 1) hx hb dL_does_13 (by decide) ?_
    refine lv_icmp_ne (tgt := 28) hx hb dL_does_14 (by decide) (fun c_2 => ?_) (fun c_2 => ?_)
    · have h1 := c_2
      refine lv_iload_n hx hb dL_does_28 rfl (lv_at hl 1 rfl) ?_
      refine lv_iconst (v := 2) hx hb dL_does_29 (by decide) ?_
      refine lv_icmp_ne (tgt := 46) hx hb dL_does_30 (by decide) (fun c_3 => ?_) (fun c_3 => ?_)
      · have h2 := c_3
        refine lv_iload_n hx hb dL_does_46 rfl (lv_at hl 1 rfl) ?_
        refine lv_iconst (v := 3) hx hb dL_does_47 (by decide) ?_
        refine lv_icmp_ne (tgt := 64) hx hb dL_does_48 (by decide) (fun c_4 => ?_) (fun c_4 => ?_)
        · have h3 := c_4
          refine lv_iload_n hx hb dL_does_64 rfl (lv_at hl 1 rfl) ?_
          refine lv_iconst (v := 4) hx hb dL_does_65 (by decide) ?_
          refine lv_icmp_ne (tgt := 82) hx hb dL_does_66 (by decide) (fun c_5 => ?_) (fun c_5 => ?_)
          · have h4 := c_5
            refine lv_iload_n hx hb dL_does_82 rfl (lv_at hl 1 rfl) ?_
            refine lv_iconst (v := 5) hx hb dL_does_83 (by decide) ?_
            refine lv_icmp_ne (tgt := 95) hx hb dL_does_84 (by decide) (fun c_6 => ?_) (fun c_6 => ?_)
            · have h5 := c_6
              refine lv_iload_n hx hb dL_does_95 rfl (lv_at hl 1 rfl) ?_
              refine lv_bipush (v := 6) hx hb dL_does_96 (by decide) ?_
              refine lv_icmp_ne (tgt := 110) hx hb dL_does_98 (by decide) (fun c_7 => ?_) (fun c_7 => ?_)
              · have h6 := c_7
                refine lv_iload_n hx hb dL_does_110 rfl (lv_at hl 1 rfl) ?_
                refine lv_bipush (v := 7) hx hb dL_does_111 (by decide) ?_
                refine lv_icmp_ne (tgt := 124) hx hb dL_does_113 (by decide) (fun c_8 => ?_) (fun c_8 => ?_)
                · have h7 := c_8
                  refine lv_aload_n hx hb dL_does_124 rfl (lv_at hl 0 rfl) ?_
                  refine fw_xVi hx hb hml hown hts hE hw [] [] (x_close (D := D) (A := A) (sa := sa) hfl hN hI hR) (cwV 0 hts gL_does_X8_close rfl rfl rfl (by decide +kernel) ⟨Nat.le_of_ble_eq_true rfl, Nat.le_of_ble_eq_true rfl⟩) (ci := 8) rfl rfl hR.x rfl hl.1 rfl (Nat.le_of_ble_eq_true rfl) dL_does_125 ⟨Nat.le_of_ble_eq_true rfl, Nat.le_of_ble_eq_true rfl⟩ (fun E ce q9 H locs hth hw hce hcv hcl => ?_) (fun r9 f10 H locs hp11 hw => ?_)
                  · rcases hth with ⟨(rfl | rfl | rfl), hth⟩
                    · refine vx_catch (own := RL) (name := nIOB) (E := nIOB) hown [] (⟨0, 128, 129, 42⟩ : ExceptionTableEntry) [(⟨0, 128, 134, 45⟩ : ExceptionTableEntry), (⟨0, 128, 139, 47⟩ : ExceptionTableEntry)] htab (fun z hz => absurd hz List.not_mem_nil) rfl (by decide) (hts (.classLink RL 42 nIOB) (by decide +kernel)) (va_Nw.use rfl (hE.1.2.2.1 (.castable nIOB nIOB) (by decide +kernel))) hce hcv hcl ?_
                      refine W.eq (g2 := F0 m 129 ls [.ref q9]) rfl ?_
                      refine lv_astore (lv' := [(6, .ref q9), (0, .ref (α 0 0 0)), (1, .int how), (2, .int a), (3, .int b), (4, .int c_), (5, .int d)]) hx hb dL_does_129 hl (by decide) rfl (fun ls hl => ?_)
                      refine lv_ldc (own := RL) (v := -900000001) hx hb hown (hts (.constant RL 44 (-900000001)) (by decide +kernel)) dL_does_131 ?_
                      exact fw_iret hx hb hr hlocks hw (Nat.le_of_ble_eq_true rfl) (Nat.le_of_ble_eq_true rfl) dL_does_133 (Or.inl ⟨(by rw [doesF, if_neg h0, if_neg h1, if_neg h2, if_neg h3, if_neg h4, if_neg h5, if_neg h6, if_neg h7] : doesF how a b c_ d S = _).trans hth, rfl, rfl⟩)
                    · refine vx_catch (own := RL) (name := nIAE) (E := nIAE) hown [(⟨0, 128, 129, 42⟩ : ExceptionTableEntry)] (⟨0, 128, 134, 45⟩ : ExceptionTableEntry) [(⟨0, 128, 139, 47⟩ : ExceptionTableEntry)] htab (fun z hz => by simp only [List.mem_cons, List.not_mem_nil, or_false] at hz; subst hz; exact Or.inr ⟨by decide, nIOB, hts (.classLink RL 42 nIOB) (by decide +kernel), hE.1.2.2.2.2.2.1⟩) rfl (by decide) (hts (.classLink RL 45 nIAE) (by decide +kernel)) (va_Nw.use rfl (hE.1.2.2.1 (.castable nIAE nIAE) (by decide +kernel))) hce hcv hcl ?_
                      refine W.eq (g2 := F0 m 134 ls [.ref q9]) rfl ?_
                      refine lv_astore (lv' := [(6, .ref q9), (0, .ref (α 0 0 0)), (1, .int how), (2, .int a), (3, .int b), (4, .int c_), (5, .int d)]) hx hb dL_does_134 hl (by decide) rfl (fun ls hl => ?_)
                      refine lv_ldc (own := RL) (v := -900000001) hx hb hown (hts (.constant RL 44 (-900000001)) (by decide +kernel)) dL_does_136 ?_
                      exact fw_iret hx hb hr hlocks hw (Nat.le_of_ble_eq_true rfl) (Nat.le_of_ble_eq_true rfl) dL_does_138 (Or.inl ⟨(by rw [doesF, if_neg h0, if_neg h1, if_neg h2, if_neg h3, if_neg h4, if_neg h5, if_neg h6, if_neg h7] : doesF how a b c_ d S = _).trans hth, rfl, rfl⟩)
                    · refine vx_catch (own := RL) (name := nISE) (E := nISE) hown [(⟨0, 128, 129, 42⟩ : ExceptionTableEntry), (⟨0, 128, 134, 45⟩ : ExceptionTableEntry)] (⟨0, 128, 139, 47⟩ : ExceptionTableEntry) [] htab (fun z hz => by
                          simp only [List.mem_cons, List.not_mem_nil, or_false] at hz
                          rcases hz with rfl | rfl
                          · exact Or.inr ⟨by decide, nIOB, hts (.classLink RL 42 nIOB) (by decide +kernel), hE.1.2.2.2.2.2.2.1⟩
                          · exact Or.inr ⟨by decide, nIAE, hts (.classLink RL 45 nIAE) (by decide +kernel), hE.1.2.2.2.2.2.2.2⟩) rfl (by decide) (hts (.classLink RL 47 nISE) (by decide +kernel)) (va_Nw.use rfl (hE.1.2.2.1 (.castable nISE nISE) (by decide +kernel))) hce hcv hcl ?_
                      refine W.eq (g2 := F0 m 139 ls [.ref q9]) rfl ?_
                      refine lv_astore (lv' := [(6, .ref q9), (0, .ref (α 0 0 0)), (1, .int how), (2, .int a), (3, .int b), (4, .int c_), (5, .int d)]) hx hb dL_does_139 hl (by decide) rfl (fun ls hl => ?_)
                      refine lv_ldc (own := RL) (v := -900000001) hx hb hown (hts (.constant RL 44 (-900000001)) (by decide +kernel)) dL_does_141 ?_
                      exact fw_iret hx hb hr hlocks hw (Nat.le_of_ble_eq_true rfl) (Nat.le_of_ble_eq_true rfl) dL_does_143 (Or.inl ⟨(by rw [doesF, if_neg h0, if_neg h1, if_neg h2, if_neg h3, if_neg h4, if_neg h5, if_neg h6, if_neg h7] : doesF how a b c_ d S = _).trans hth, rfl, rfl⟩)
                  · exact fw_iret hx hb hr hlocks hw (Nat.le_of_ble_eq_true rfl) (Nat.le_of_ble_eq_true rfl) dL_does_128 (by obtain ⟨S2, α2, q1, q2, q3⟩ := hp11; exact Or.inr ⟨S2, α2, (by rw [doesF, if_neg h0, if_neg h1, if_neg h2, if_neg h3, if_neg h4, if_neg h5, if_neg h6, if_neg h7] : doesF how a b c_ d S = _).trans q1, q2, q3⟩)
                · have h7 := c_8
                  refine lv_aload_n hx hb dL_does_116 rfl (lv_at hl 0 rfl) ?_
                  refine lv_iload_n hx hb dL_does_117 rfl (lv_at hl 2 rfl) ?_
                  refine fw_xVi hx hb hml hown hts hE hw [.int a] [] (x_bounce (D := D) (A := A) (sa := sa) hfl a hI hR) (cwV 1 hts gL_does_X8_bounce rfl rfl rfl (by decide +kernel) ⟨Nat.le_of_ble_eq_true rfl, Nat.le_of_ble_eq_true rfl⟩) (ci := 8) rfl rfl hR.x rfl hl.1 rfl (Nat.le_of_ble_eq_true rfl) dL_does_118 ⟨Nat.le_of_ble_eq_true rfl, Nat.le_of_ble_eq_true rfl⟩ (fun E ce q9 H locs hth hw hce hcv hcl => ?_) (fun r12 f13 H locs hp14 hw => ?_)
                  · rcases hth with ⟨(rfl | rfl | rfl), hth⟩
                    · refine vx_catch (own := RL) (name := nIOB) (E := nIOB) hown [] (⟨0, 128, 129, 42⟩ : ExceptionTableEntry) [(⟨0, 128, 134, 45⟩ : ExceptionTableEntry), (⟨0, 128, 139, 47⟩ : ExceptionTableEntry)] htab (fun z hz => absurd hz List.not_mem_nil) rfl (by decide) (hts (.classLink RL 42 nIOB) (by decide +kernel)) (va_Nw.use rfl (hE.1.2.2.1 (.castable nIOB nIOB) (by decide +kernel))) hce hcv hcl ?_
                      refine W.eq (g2 := F0 m 129 ls [.ref q9]) rfl ?_
                      refine lv_astore (lv' := [(6, .ref q9), (0, .ref (α 0 0 0)), (1, .int how), (2, .int a), (3, .int b), (4, .int c_), (5, .int d)]) hx hb dL_does_129 hl (by decide) rfl (fun ls hl => ?_)
                      refine lv_ldc (own := RL) (v := -900000001) hx hb hown (hts (.constant RL 44 (-900000001)) (by decide +kernel)) dL_does_131 ?_
                      exact fw_iret hx hb hr hlocks hw (Nat.le_of_ble_eq_true rfl) (Nat.le_of_ble_eq_true rfl) dL_does_133 (Or.inl ⟨(by rw [doesF, if_neg h0, if_neg h1, if_neg h2, if_neg h3, if_neg h4, if_neg h5, if_neg h6, if_pos h7] : doesF how a b c_ d S = _).trans hth, rfl, rfl⟩)
                    · refine vx_catch (own := RL) (name := nIAE) (E := nIAE) hown [(⟨0, 128, 129, 42⟩ : ExceptionTableEntry)] (⟨0, 128, 134, 45⟩ : ExceptionTableEntry) [(⟨0, 128, 139, 47⟩ : ExceptionTableEntry)] htab (fun z hz => by simp only [List.mem_cons, List.not_mem_nil, or_false] at hz; subst hz; exact Or.inr ⟨by decide, nIOB, hts (.classLink RL 42 nIOB) (by decide +kernel), hE.1.2.2.2.2.2.1⟩) rfl (by decide) (hts (.classLink RL 45 nIAE) (by decide +kernel)) (va_Nw.use rfl (hE.1.2.2.1 (.castable nIAE nIAE) (by decide +kernel))) hce hcv hcl ?_
                      refine W.eq (g2 := F0 m 134 ls [.ref q9]) rfl ?_
                      refine lv_astore (lv' := [(6, .ref q9), (0, .ref (α 0 0 0)), (1, .int how), (2, .int a), (3, .int b), (4, .int c_), (5, .int d)]) hx hb dL_does_134 hl (by decide) rfl (fun ls hl => ?_)
                      refine lv_ldc (own := RL) (v := -900000001) hx hb hown (hts (.constant RL 44 (-900000001)) (by decide +kernel)) dL_does_136 ?_
                      exact fw_iret hx hb hr hlocks hw (Nat.le_of_ble_eq_true rfl) (Nat.le_of_ble_eq_true rfl) dL_does_138 (Or.inl ⟨(by rw [doesF, if_neg h0, if_neg h1, if_neg h2, if_neg h3, if_neg h4, if_neg h5, if_neg h6, if_pos h7] : doesF how a b c_ d S = _).trans hth, rfl, rfl⟩)
                    · refine vx_catch (own := RL) (name := nISE) (E := nISE) hown [(⟨0, 128, 129, 42⟩ : ExceptionTableEntry), (⟨0, 128, 134, 45⟩ : ExceptionTableEntry)] (⟨0, 128, 139, 47⟩ : ExceptionTableEntry) [] htab (fun z hz => by
                          simp only [List.mem_cons, List.not_mem_nil, or_false] at hz
                          rcases hz with rfl | rfl
                          · exact Or.inr ⟨by decide, nIOB, hts (.classLink RL 42 nIOB) (by decide +kernel), hE.1.2.2.2.2.2.2.1⟩
                          · exact Or.inr ⟨by decide, nIAE, hts (.classLink RL 45 nIAE) (by decide +kernel), hE.1.2.2.2.2.2.2.2⟩) rfl (by decide) (hts (.classLink RL 47 nISE) (by decide +kernel)) (va_Nw.use rfl (hE.1.2.2.1 (.castable nISE nISE) (by decide +kernel))) hce hcv hcl ?_
                      refine W.eq (g2 := F0 m 139 ls [.ref q9]) rfl ?_
                      refine lv_astore (lv' := [(6, .ref q9), (0, .ref (α 0 0 0)), (1, .int how), (2, .int a), (3, .int b), (4, .int c_), (5, .int d)]) hx hb dL_does_139 hl (by decide) rfl (fun ls hl => ?_)
                      refine lv_ldc (own := RL) (v := -900000001) hx hb hown (hts (.constant RL 44 (-900000001)) (by decide +kernel)) dL_does_141 ?_
                      exact fw_iret hx hb hr hlocks hw (Nat.le_of_ble_eq_true rfl) (Nat.le_of_ble_eq_true rfl) dL_does_143 (Or.inl ⟨(by rw [doesF, if_neg h0, if_neg h1, if_neg h2, if_neg h3, if_neg h4, if_neg h5, if_neg h6, if_pos h7] : doesF how a b c_ d S = _).trans hth, rfl, rfl⟩)
                  · refine lv_goto (tgt := 128) hx hb dL_does_121 (by decide) ?_
                    exact fw_iret hx hb hr hlocks hw (Nat.le_of_ble_eq_true rfl) (Nat.le_of_ble_eq_true rfl) dL_does_128 (by obtain ⟨S2, α2, q1, q2, q3⟩ := hp14; exact Or.inr ⟨S2, α2, (by rw [doesF, if_neg h0, if_neg h1, if_neg h2, if_neg h3, if_neg h4, if_neg h5, if_neg h6, if_pos h7] : doesF how a b c_ d S = _).trans q1, q2, q3⟩)
              · have h6 := c_7
                refine lv_aload_n hx hb dL_does_101 rfl (lv_at hl 0 rfl) ?_
                refine lv_iload_n hx hb dL_does_102 rfl (lv_at hl 2 rfl) ?_
                refine lv_iload_n hx hb dL_does_103 rfl (lv_at hl 3 rfl) ?_
                refine fw_xVi hx hb hml hown hts hE hw [.int a, .int b] [] (x_fill (D := D) (A := A) (sa := sa) hfl a b hI hR) (cwV 2 hts gL_does_X8_fill rfl rfl rfl (by decide +kernel) ⟨Nat.le_of_ble_eq_true rfl, Nat.le_of_ble_eq_true rfl⟩) (ci := 8) rfl rfl hR.x rfl hl.1 rfl (Nat.le_of_ble_eq_true rfl) dL_does_104 ⟨Nat.le_of_ble_eq_true rfl, Nat.le_of_ble_eq_true rfl⟩ (fun E ce q9 H locs hth hw hce hcv hcl => ?_) (fun r15 f16 H locs hp17 hw => ?_)
                · rcases hth with ⟨(rfl | rfl | rfl), hth⟩
                  · refine vx_catch (own := RL) (name := nIOB) (E := nIOB) hown [] (⟨0, 128, 129, 42⟩ : ExceptionTableEntry) [(⟨0, 128, 134, 45⟩ : ExceptionTableEntry), (⟨0, 128, 139, 47⟩ : ExceptionTableEntry)] htab (fun z hz => absurd hz List.not_mem_nil) rfl (by decide) (hts (.classLink RL 42 nIOB) (by decide +kernel)) (va_Nw.use rfl (hE.1.2.2.1 (.castable nIOB nIOB) (by decide +kernel))) hce hcv hcl ?_
                    refine W.eq (g2 := F0 m 129 ls [.ref q9]) rfl ?_
                    refine lv_astore (lv' := [(6, .ref q9), (0, .ref (α 0 0 0)), (1, .int how), (2, .int a), (3, .int b), (4, .int c_), (5, .int d)]) hx hb dL_does_129 hl (by decide) rfl (fun ls hl => ?_)
                    refine lv_ldc (own := RL) (v := -900000001) hx hb hown (hts (.constant RL 44 (-900000001)) (by decide +kernel)) dL_does_131 ?_
                    exact fw_iret hx hb hr hlocks hw (Nat.le_of_ble_eq_true rfl) (Nat.le_of_ble_eq_true rfl) dL_does_133 (Or.inl ⟨(by rw [doesF, if_neg h0, if_neg h1, if_neg h2, if_neg h3, if_neg h4, if_neg h5, if_pos h6] : doesF how a b c_ d S = _).trans hth, rfl, rfl⟩)
                  · refine vx_catch (own := RL) (name := nIAE) (E := nIAE) hown [(⟨0, 128, 129, 42⟩ : ExceptionTableEntry)] (⟨0, 128, 134, 45⟩ : ExceptionTableEntry) [(⟨0, 128, 139, 47⟩ : ExceptionTableEntry)] htab (fun z hz => by simp only [List.mem_cons, List.not_mem_nil, or_false] at hz; subst hz; exact Or.inr ⟨by decide, nIOB, hts (.classLink RL 42 nIOB) (by decide +kernel), hE.1.2.2.2.2.2.1⟩) rfl (by decide) (hts (.classLink RL 45 nIAE) (by decide +kernel)) (va_Nw.use rfl (hE.1.2.2.1 (.castable nIAE nIAE) (by decide +kernel))) hce hcv hcl ?_
                    refine W.eq (g2 := F0 m 134 ls [.ref q9]) rfl ?_
                    refine lv_astore (lv' := [(6, .ref q9), (0, .ref (α 0 0 0)), (1, .int how), (2, .int a), (3, .int b), (4, .int c_), (5, .int d)]) hx hb dL_does_134 hl (by decide) rfl (fun ls hl => ?_)
                    refine lv_ldc (own := RL) (v := -900000001) hx hb hown (hts (.constant RL 44 (-900000001)) (by decide +kernel)) dL_does_136 ?_
                    exact fw_iret hx hb hr hlocks hw (Nat.le_of_ble_eq_true rfl) (Nat.le_of_ble_eq_true rfl) dL_does_138 (Or.inl ⟨(by rw [doesF, if_neg h0, if_neg h1, if_neg h2, if_neg h3, if_neg h4, if_neg h5, if_pos h6] : doesF how a b c_ d S = _).trans hth, rfl, rfl⟩)
                  · refine vx_catch (own := RL) (name := nISE) (E := nISE) hown [(⟨0, 128, 129, 42⟩ : ExceptionTableEntry), (⟨0, 128, 134, 45⟩ : ExceptionTableEntry)] (⟨0, 128, 139, 47⟩ : ExceptionTableEntry) [] htab (fun z hz => by
                        simp only [List.mem_cons, List.not_mem_nil, or_false] at hz
                        rcases hz with rfl | rfl
                        · exact Or.inr ⟨by decide, nIOB, hts (.classLink RL 42 nIOB) (by decide +kernel), hE.1.2.2.2.2.2.2.1⟩
                        · exact Or.inr ⟨by decide, nIAE, hts (.classLink RL 45 nIAE) (by decide +kernel), hE.1.2.2.2.2.2.2.2⟩) rfl (by decide) (hts (.classLink RL 47 nISE) (by decide +kernel)) (va_Nw.use rfl (hE.1.2.2.1 (.castable nISE nISE) (by decide +kernel))) hce hcv hcl ?_
                    refine W.eq (g2 := F0 m 139 ls [.ref q9]) rfl ?_
                    refine lv_astore (lv' := [(6, .ref q9), (0, .ref (α 0 0 0)), (1, .int how), (2, .int a), (3, .int b), (4, .int c_), (5, .int d)]) hx hb dL_does_139 hl (by decide) rfl (fun ls hl => ?_)
                    refine lv_ldc (own := RL) (v := -900000001) hx hb hown (hts (.constant RL 44 (-900000001)) (by decide +kernel)) dL_does_141 ?_
                    exact fw_iret hx hb hr hlocks hw (Nat.le_of_ble_eq_true rfl) (Nat.le_of_ble_eq_true rfl) dL_does_143 (Or.inl ⟨(by rw [doesF, if_neg h0, if_neg h1, if_neg h2, if_neg h3, if_neg h4, if_neg h5, if_pos h6] : doesF how a b c_ d S = _).trans hth, rfl, rfl⟩)
                · refine lv_goto (tgt := 128) hx hb dL_does_107 (by decide) ?_
                  exact fw_iret hx hb hr hlocks hw (Nat.le_of_ble_eq_true rfl) (Nat.le_of_ble_eq_true rfl) dL_does_128 (by obtain ⟨S2, α2, q1, q2, q3⟩ := hp17; exact Or.inr ⟨S2, α2, (by rw [doesF, if_neg h0, if_neg h1, if_neg h2, if_neg h3, if_neg h4, if_neg h5, if_pos h6] : doesF how a b c_ d S = _).trans q1, q2, q3⟩)
            · have h5 := c_6
              refine lv_aload_n hx hb dL_does_87 rfl (lv_at hl 0 rfl) ?_
              refine lv_iload_n hx hb dL_does_88 rfl (lv_at hl 2 rfl) ?_
              refine fw_xVi hx hb hml hown hts hE hw [.int a] [] (x_setFloor (D := D) (A := A) (sa := sa) hfl a hI hR) (cwV 1 hts gL_does_X8_setFloor rfl rfl rfl (by decide +kernel) ⟨Nat.le_of_ble_eq_true rfl, Nat.le_of_ble_eq_true rfl⟩) (ci := 8) rfl rfl hR.x rfl hl.1 rfl (Nat.le_of_ble_eq_true rfl) dL_does_89 ⟨Nat.le_of_ble_eq_true rfl, Nat.le_of_ble_eq_true rfl⟩ (fun E ce q9 H locs hth hw hce hcv hcl => ?_) (fun r18 f19 H locs hp20 hw => ?_)
              · rcases hth with ⟨(rfl | rfl | rfl), hth⟩
                · refine vx_catch (own := RL) (name := nIOB) (E := nIOB) hown [] (⟨0, 128, 129, 42⟩ : ExceptionTableEntry) [(⟨0, 128, 134, 45⟩ : ExceptionTableEntry), (⟨0, 128, 139, 47⟩ : ExceptionTableEntry)] htab (fun z hz => absurd hz List.not_mem_nil) rfl (by decide) (hts (.classLink RL 42 nIOB) (by decide +kernel)) (va_Nw.use rfl (hE.1.2.2.1 (.castable nIOB nIOB) (by decide +kernel))) hce hcv hcl ?_
                  refine W.eq (g2 := F0 m 129 ls [.ref q9]) rfl ?_
                  refine lv_astore (lv' := [(6, .ref q9), (0, .ref (α 0 0 0)), (1, .int how), (2, .int a), (3, .int b), (4, .int c_), (5, .int d)]) hx hb dL_does_129 hl (by decide) rfl (fun ls hl => ?_)
                  refine lv_ldc (own := RL) (v := -900000001) hx hb hown (hts (.constant RL 44 (-900000001)) (by decide +kernel)) dL_does_131 ?_
                  exact fw_iret hx hb hr hlocks hw (Nat.le_of_ble_eq_true rfl) (Nat.le_of_ble_eq_true rfl) dL_does_133 (Or.inl ⟨(by rw [doesF, if_neg h0, if_neg h1, if_neg h2, if_neg h3, if_neg h4, if_pos h5] : doesF how a b c_ d S = _).trans hth, rfl, rfl⟩)
                · refine vx_catch (own := RL) (name := nIAE) (E := nIAE) hown [(⟨0, 128, 129, 42⟩ : ExceptionTableEntry)] (⟨0, 128, 134, 45⟩ : ExceptionTableEntry) [(⟨0, 128, 139, 47⟩ : ExceptionTableEntry)] htab (fun z hz => by simp only [List.mem_cons, List.not_mem_nil, or_false] at hz; subst hz; exact Or.inr ⟨by decide, nIOB, hts (.classLink RL 42 nIOB) (by decide +kernel), hE.1.2.2.2.2.2.1⟩) rfl (by decide) (hts (.classLink RL 45 nIAE) (by decide +kernel)) (va_Nw.use rfl (hE.1.2.2.1 (.castable nIAE nIAE) (by decide +kernel))) hce hcv hcl ?_
                  refine W.eq (g2 := F0 m 134 ls [.ref q9]) rfl ?_
                  refine lv_astore (lv' := [(6, .ref q9), (0, .ref (α 0 0 0)), (1, .int how), (2, .int a), (3, .int b), (4, .int c_), (5, .int d)]) hx hb dL_does_134 hl (by decide) rfl (fun ls hl => ?_)
                  refine lv_ldc (own := RL) (v := -900000001) hx hb hown (hts (.constant RL 44 (-900000001)) (by decide +kernel)) dL_does_136 ?_
                  exact fw_iret hx hb hr hlocks hw (Nat.le_of_ble_eq_true rfl) (Nat.le_of_ble_eq_true rfl) dL_does_138 (Or.inl ⟨(by rw [doesF, if_neg h0, if_neg h1, if_neg h2, if_neg h3, if_neg h4, if_pos h5] : doesF how a b c_ d S = _).trans hth, rfl, rfl⟩)
                · refine vx_catch (own := RL) (name := nISE) (E := nISE) hown [(⟨0, 128, 129, 42⟩ : ExceptionTableEntry), (⟨0, 128, 134, 45⟩ : ExceptionTableEntry)] (⟨0, 128, 139, 47⟩ : ExceptionTableEntry) [] htab (fun z hz => by
                      simp only [List.mem_cons, List.not_mem_nil, or_false] at hz
                      rcases hz with rfl | rfl
                      · exact Or.inr ⟨by decide, nIOB, hts (.classLink RL 42 nIOB) (by decide +kernel), hE.1.2.2.2.2.2.2.1⟩
                      · exact Or.inr ⟨by decide, nIAE, hts (.classLink RL 45 nIAE) (by decide +kernel), hE.1.2.2.2.2.2.2.2⟩) rfl (by decide) (hts (.classLink RL 47 nISE) (by decide +kernel)) (va_Nw.use rfl (hE.1.2.2.1 (.castable nISE nISE) (by decide +kernel))) hce hcv hcl ?_
                  refine W.eq (g2 := F0 m 139 ls [.ref q9]) rfl ?_
                  refine lv_astore (lv' := [(6, .ref q9), (0, .ref (α 0 0 0)), (1, .int how), (2, .int a), (3, .int b), (4, .int c_), (5, .int d)]) hx hb dL_does_139 hl (by decide) rfl (fun ls hl => ?_)
                  refine lv_ldc (own := RL) (v := -900000001) hx hb hown (hts (.constant RL 44 (-900000001)) (by decide +kernel)) dL_does_141 ?_
                  exact fw_iret hx hb hr hlocks hw (Nat.le_of_ble_eq_true rfl) (Nat.le_of_ble_eq_true rfl) dL_does_143 (Or.inl ⟨(by rw [doesF, if_neg h0, if_neg h1, if_neg h2, if_neg h3, if_neg h4, if_pos h5] : doesF how a b c_ d S = _).trans hth, rfl, rfl⟩)
              · refine lv_goto (tgt := 128) hx hb dL_does_92 (by decide) ?_
                exact fw_iret hx hb hr hlocks hw (Nat.le_of_ble_eq_true rfl) (Nat.le_of_ble_eq_true rfl) dL_does_128 (by obtain ⟨S2, α2, q1, q2, q3⟩ := hp20; exact Or.inr ⟨S2, α2, (by rw [doesF, if_neg h0, if_neg h1, if_neg h2, if_neg h3, if_neg h4, if_pos h5] : doesF how a b c_ d S = _).trans q1, q2, q3⟩)
          · have h4 := c_5
            refine lv_aload_n hx hb dL_does_69 rfl (lv_at hl 0 rfl) ?_
            refine lv_iload_n hx hb dL_does_70 rfl (lv_at hl 2 rfl) ?_
            refine lv_iload_n hx hb dL_does_71 rfl (lv_at hl 3 rfl) ?_
            refine lv_iload hx hb dL_does_72 (lv_at hl 4 rfl) ?_
            refine lv_iload hx hb dL_does_74 (lv_at hl 5 rfl) ?_
            refine fw_xVi hx hb hml hown hts hE hw [.int a, .int b, .int c_, .int d] [] (x_order (D := D) (A := A) (sa := sa) hfl a b c_ d hI hR) (cwV 4 hts gL_does_X8_order rfl rfl rfl (by decide +kernel) ⟨Nat.le_of_ble_eq_true rfl, Nat.le_of_ble_eq_true rfl⟩) (ci := 8) rfl rfl hR.x rfl hl.1 rfl (Nat.le_of_ble_eq_true rfl) dL_does_76 ⟨Nat.le_of_ble_eq_true rfl, Nat.le_of_ble_eq_true rfl⟩ (fun E ce q9 H locs hth hw hce hcv hcl => ?_) (fun r21 f22 H locs hp23 hw => ?_)
            · rcases hth with ⟨(rfl | rfl | rfl), hth⟩
              · refine vx_catch (own := RL) (name := nIOB) (E := nIOB) hown [] (⟨0, 128, 129, 42⟩ : ExceptionTableEntry) [(⟨0, 128, 134, 45⟩ : ExceptionTableEntry), (⟨0, 128, 139, 47⟩ : ExceptionTableEntry)] htab (fun z hz => absurd hz List.not_mem_nil) rfl (by decide) (hts (.classLink RL 42 nIOB) (by decide +kernel)) (va_Nw.use rfl (hE.1.2.2.1 (.castable nIOB nIOB) (by decide +kernel))) hce hcv hcl ?_
                refine W.eq (g2 := F0 m 129 ls [.ref q9]) rfl ?_
                refine lv_astore (lv' := [(6, .ref q9), (0, .ref (α 0 0 0)), (1, .int how), (2, .int a), (3, .int b), (4, .int c_), (5, .int d)]) hx hb dL_does_129 hl (by decide) rfl (fun ls hl => ?_)
                refine lv_ldc (own := RL) (v := -900000001) hx hb hown (hts (.constant RL 44 (-900000001)) (by decide +kernel)) dL_does_131 ?_
                exact fw_iret hx hb hr hlocks hw (Nat.le_of_ble_eq_true rfl) (Nat.le_of_ble_eq_true rfl) dL_does_133 (Or.inl ⟨(by rw [doesF, if_neg h0, if_neg h1, if_neg h2, if_neg h3, if_pos h4] : doesF how a b c_ d S = _).trans hth, rfl, rfl⟩)
              · refine vx_catch (own := RL) (name := nIAE) (E := nIAE) hown [(⟨0, 128, 129, 42⟩ : ExceptionTableEntry)] (⟨0, 128, 134, 45⟩ : ExceptionTableEntry) [(⟨0, 128, 139, 47⟩ : ExceptionTableEntry)] htab (fun z hz => by simp only [List.mem_cons, List.not_mem_nil, or_false] at hz; subst hz; exact Or.inr ⟨by decide, nIOB, hts (.classLink RL 42 nIOB) (by decide +kernel), hE.1.2.2.2.2.2.1⟩) rfl (by decide) (hts (.classLink RL 45 nIAE) (by decide +kernel)) (va_Nw.use rfl (hE.1.2.2.1 (.castable nIAE nIAE) (by decide +kernel))) hce hcv hcl ?_
                refine W.eq (g2 := F0 m 134 ls [.ref q9]) rfl ?_
                refine lv_astore (lv' := [(6, .ref q9), (0, .ref (α 0 0 0)), (1, .int how), (2, .int a), (3, .int b), (4, .int c_), (5, .int d)]) hx hb dL_does_134 hl (by decide) rfl (fun ls hl => ?_)
                refine lv_ldc (own := RL) (v := -900000001) hx hb hown (hts (.constant RL 44 (-900000001)) (by decide +kernel)) dL_does_136 ?_
                exact fw_iret hx hb hr hlocks hw (Nat.le_of_ble_eq_true rfl) (Nat.le_of_ble_eq_true rfl) dL_does_138 (Or.inl ⟨(by rw [doesF, if_neg h0, if_neg h1, if_neg h2, if_neg h3, if_pos h4] : doesF how a b c_ d S = _).trans hth, rfl, rfl⟩)
              · refine vx_catch (own := RL) (name := nISE) (E := nISE) hown [(⟨0, 128, 129, 42⟩ : ExceptionTableEntry), (⟨0, 128, 134, 45⟩ : ExceptionTableEntry)] (⟨0, 128, 139, 47⟩ : ExceptionTableEntry) [] htab (fun z hz => by
                    simp only [List.mem_cons, List.not_mem_nil, or_false] at hz
                    rcases hz with rfl | rfl
                    · exact Or.inr ⟨by decide, nIOB, hts (.classLink RL 42 nIOB) (by decide +kernel), hE.1.2.2.2.2.2.2.1⟩
                    · exact Or.inr ⟨by decide, nIAE, hts (.classLink RL 45 nIAE) (by decide +kernel), hE.1.2.2.2.2.2.2.2⟩) rfl (by decide) (hts (.classLink RL 47 nISE) (by decide +kernel)) (va_Nw.use rfl (hE.1.2.2.1 (.castable nISE nISE) (by decide +kernel))) hce hcv hcl ?_
                refine W.eq (g2 := F0 m 139 ls [.ref q9]) rfl ?_
                refine lv_astore (lv' := [(6, .ref q9), (0, .ref (α 0 0 0)), (1, .int how), (2, .int a), (3, .int b), (4, .int c_), (5, .int d)]) hx hb dL_does_139 hl (by decide) rfl (fun ls hl => ?_)
                refine lv_ldc (own := RL) (v := -900000001) hx hb hown (hts (.constant RL 44 (-900000001)) (by decide +kernel)) dL_does_141 ?_
                exact fw_iret hx hb hr hlocks hw (Nat.le_of_ble_eq_true rfl) (Nat.le_of_ble_eq_true rfl) dL_does_143 (Or.inl ⟨(by rw [doesF, if_neg h0, if_neg h1, if_neg h2, if_neg h3, if_pos h4] : doesF how a b c_ d S = _).trans hth, rfl, rfl⟩)
            · refine lv_goto (tgt := 128) hx hb dL_does_79 (by decide) ?_
              exact fw_iret hx hb hr hlocks hw (Nat.le_of_ble_eq_true rfl) (Nat.le_of_ble_eq_true rfl) dL_does_128 (by obtain ⟨S2, α2, q1, q2, q3⟩ := hp23; exact Or.inr ⟨S2, α2, (by rw [doesF, if_neg h0, if_neg h1, if_neg h2, if_neg h3, if_pos h4] : doesF how a b c_ d S = _).trans q1, q2, q3⟩)
        · have h3 := c_4
          refine lv_aload_n hx hb dL_does_51 rfl (lv_at hl 0 rfl) ?_
          refine lv_iload_n hx hb dL_does_52 rfl (lv_at hl 2 rfl) ?_
          refine lv_iload_n hx hb dL_does_53 rfl (lv_at hl 3 rfl) ?_
          refine lv_iload hx hb dL_does_54 (lv_at hl 4 rfl) ?_
          refine lv_iload hx hb dL_does_56 (lv_at hl 5 rfl) ?_
          refine fw_xVi hx hb hml hown hts hE hw [.int a, .int b, .int c_, .int d] [] (x_correct (D := D) (A := A) (sa := sa) hfl a b c_ d hI hR) (cwV 4 hts gL_does_X8_correct rfl rfl rfl (by decide +kernel) ⟨Nat.le_of_ble_eq_true rfl, Nat.le_of_ble_eq_true rfl⟩) (ci := 8) rfl rfl hR.x rfl hl.1 rfl (Nat.le_of_ble_eq_true rfl) dL_does_58 ⟨Nat.le_of_ble_eq_true rfl, Nat.le_of_ble_eq_true rfl⟩ (fun E ce q9 H locs hth hw hce hcv hcl => ?_) (fun r24 f25 H locs hp26 hw => ?_)
          · rcases hth with ⟨(rfl | rfl | rfl), hth⟩
            · refine vx_catch (own := RL) (name := nIOB) (E := nIOB) hown [] (⟨0, 128, 129, 42⟩ : ExceptionTableEntry) [(⟨0, 128, 134, 45⟩ : ExceptionTableEntry), (⟨0, 128, 139, 47⟩ : ExceptionTableEntry)] htab (fun z hz => absurd hz List.not_mem_nil) rfl (by decide) (hts (.classLink RL 42 nIOB) (by decide +kernel)) (va_Nw.use rfl (hE.1.2.2.1 (.castable nIOB nIOB) (by decide +kernel))) hce hcv hcl ?_
              refine W.eq (g2 := F0 m 129 ls [.ref q9]) rfl ?_
              refine lv_astore (lv' := [(6, .ref q9), (0, .ref (α 0 0 0)), (1, .int how), (2, .int a), (3, .int b), (4, .int c_), (5, .int d)]) hx hb dL_does_129 hl (by decide) rfl (fun ls hl => ?_)
              refine lv_ldc (own := RL) (v := -900000001) hx hb hown (hts (.constant RL 44 (-900000001)) (by decide +kernel)) dL_does_131 ?_
              exact fw_iret hx hb hr hlocks hw (Nat.le_of_ble_eq_true rfl) (Nat.le_of_ble_eq_true rfl) dL_does_133 (Or.inl ⟨(by rw [doesF, if_neg h0, if_neg h1, if_neg h2, if_pos h3] : doesF how a b c_ d S = _).trans hth, rfl, rfl⟩)
            · refine vx_catch (own := RL) (name := nIAE) (E := nIAE) hown [(⟨0, 128, 129, 42⟩ : ExceptionTableEntry)] (⟨0, 128, 134, 45⟩ : ExceptionTableEntry) [(⟨0, 128, 139, 47⟩ : ExceptionTableEntry)] htab (fun z hz => by simp only [List.mem_cons, List.not_mem_nil, or_false] at hz; subst hz; exact Or.inr ⟨by decide, nIOB, hts (.classLink RL 42 nIOB) (by decide +kernel), hE.1.2.2.2.2.2.1⟩) rfl (by decide) (hts (.classLink RL 45 nIAE) (by decide +kernel)) (va_Nw.use rfl (hE.1.2.2.1 (.castable nIAE nIAE) (by decide +kernel))) hce hcv hcl ?_
              refine W.eq (g2 := F0 m 134 ls [.ref q9]) rfl ?_
              refine lv_astore (lv' := [(6, .ref q9), (0, .ref (α 0 0 0)), (1, .int how), (2, .int a), (3, .int b), (4, .int c_), (5, .int d)]) hx hb dL_does_134 hl (by decide) rfl (fun ls hl => ?_)
              refine lv_ldc (own := RL) (v := -900000001) hx hb hown (hts (.constant RL 44 (-900000001)) (by decide +kernel)) dL_does_136 ?_
              exact fw_iret hx hb hr hlocks hw (Nat.le_of_ble_eq_true rfl) (Nat.le_of_ble_eq_true rfl) dL_does_138 (Or.inl ⟨(by rw [doesF, if_neg h0, if_neg h1, if_neg h2, if_pos h3] : doesF how a b c_ d S = _).trans hth, rfl, rfl⟩)
            · refine vx_catch (own := RL) (name := nISE) (E := nISE) hown [(⟨0, 128, 129, 42⟩ : ExceptionTableEntry), (⟨0, 128, 134, 45⟩ : ExceptionTableEntry)] (⟨0, 128, 139, 47⟩ : ExceptionTableEntry) [] htab (fun z hz => by
                  simp only [List.mem_cons, List.not_mem_nil, or_false] at hz
                  rcases hz with rfl | rfl
                  · exact Or.inr ⟨by decide, nIOB, hts (.classLink RL 42 nIOB) (by decide +kernel), hE.1.2.2.2.2.2.2.1⟩
                  · exact Or.inr ⟨by decide, nIAE, hts (.classLink RL 45 nIAE) (by decide +kernel), hE.1.2.2.2.2.2.2.2⟩) rfl (by decide) (hts (.classLink RL 47 nISE) (by decide +kernel)) (va_Nw.use rfl (hE.1.2.2.1 (.castable nISE nISE) (by decide +kernel))) hce hcv hcl ?_
              refine W.eq (g2 := F0 m 139 ls [.ref q9]) rfl ?_
              refine lv_astore (lv' := [(6, .ref q9), (0, .ref (α 0 0 0)), (1, .int how), (2, .int a), (3, .int b), (4, .int c_), (5, .int d)]) hx hb dL_does_139 hl (by decide) rfl (fun ls hl => ?_)
              refine lv_ldc (own := RL) (v := -900000001) hx hb hown (hts (.constant RL 44 (-900000001)) (by decide +kernel)) dL_does_141 ?_
              exact fw_iret hx hb hr hlocks hw (Nat.le_of_ble_eq_true rfl) (Nat.le_of_ble_eq_true rfl) dL_does_143 (Or.inl ⟨(by rw [doesF, if_neg h0, if_neg h1, if_neg h2, if_pos h3] : doesF how a b c_ d S = _).trans hth, rfl, rfl⟩)
          · refine lv_goto (tgt := 128) hx hb dL_does_61 (by decide) ?_
            exact fw_iret hx hb hr hlocks hw (Nat.le_of_ble_eq_true rfl) (Nat.le_of_ble_eq_true rfl) dL_does_128 (by obtain ⟨S2, α2, q1, q2, q3⟩ := hp26; exact Or.inr ⟨S2, α2, (by rw [doesF, if_neg h0, if_neg h1, if_neg h2, if_pos h3] : doesF how a b c_ d S = _).trans q1, q2, q3⟩)
      · have h2 := c_3
        refine lv_aload_n hx hb dL_does_33 rfl (lv_at hl 0 rfl) ?_
        refine lv_iload_n hx hb dL_does_34 rfl (lv_at hl 2 rfl) ?_
        refine lv_iload_n hx hb dL_does_35 rfl (lv_at hl 3 rfl) ?_
        refine lv_iload hx hb dL_does_36 (lv_at hl 4 rfl) ?_
        refine lv_iload hx hb dL_does_38 (lv_at hl 5 rfl) ?_
        refine fw_xVi hx hb hml hown hts hE hw [.int a, .int b, .int c_, .int d] [] (x_setRates (D := D) (A := A) (sa := sa) hfl a b c_ d hI hR) (cwV 4 hts gL_does_X8_setRates rfl rfl rfl (by decide +kernel) ⟨Nat.le_of_ble_eq_true rfl, Nat.le_of_ble_eq_true rfl⟩) (ci := 8) rfl rfl hR.x rfl hl.1 rfl (Nat.le_of_ble_eq_true rfl) dL_does_40 ⟨Nat.le_of_ble_eq_true rfl, Nat.le_of_ble_eq_true rfl⟩ (fun E ce q9 H locs hth hw hce hcv hcl => ?_) (fun r27 f28 H locs hp29 hw => ?_)
        · rcases hth with ⟨(rfl | rfl | rfl), hth⟩
          · refine vx_catch (own := RL) (name := nIOB) (E := nIOB) hown [] (⟨0, 128, 129, 42⟩ : ExceptionTableEntry) [(⟨0, 128, 134, 45⟩ : ExceptionTableEntry), (⟨0, 128, 139, 47⟩ : ExceptionTableEntry)] htab (fun z hz => absurd hz List.not_mem_nil) rfl (by decide) (hts (.classLink RL 42 nIOB) (by decide +kernel)) (va_Nw.use rfl (hE.1.2.2.1 (.castable nIOB nIOB) (by decide +kernel))) hce hcv hcl ?_
            refine W.eq (g2 := F0 m 129 ls [.ref q9]) rfl ?_
            refine lv_astore (lv' := [(6, .ref q9), (0, .ref (α 0 0 0)), (1, .int how), (2, .int a), (3, .int b), (4, .int c_), (5, .int d)]) hx hb dL_does_129 hl (by decide) rfl (fun ls hl => ?_)
            refine lv_ldc (own := RL) (v := -900000001) hx hb hown (hts (.constant RL 44 (-900000001)) (by decide +kernel)) dL_does_131 ?_
            exact fw_iret hx hb hr hlocks hw (Nat.le_of_ble_eq_true rfl) (Nat.le_of_ble_eq_true rfl) dL_does_133 (Or.inl ⟨(by rw [doesF, if_neg h0, if_neg h1, if_pos h2] : doesF how a b c_ d S = _).trans hth, rfl, rfl⟩)
          · refine vx_catch (own := RL) (name := nIAE) (E := nIAE) hown [(⟨0, 128, 129, 42⟩ : ExceptionTableEntry)] (⟨0, 128, 134, 45⟩ : ExceptionTableEntry) [(⟨0, 128, 139, 47⟩ : ExceptionTableEntry)] htab (fun z hz => by simp only [List.mem_cons, List.not_mem_nil, or_false] at hz; subst hz; exact Or.inr ⟨by decide, nIOB, hts (.classLink RL 42 nIOB) (by decide +kernel), hE.1.2.2.2.2.2.1⟩) rfl (by decide) (hts (.classLink RL 45 nIAE) (by decide +kernel)) (va_Nw.use rfl (hE.1.2.2.1 (.castable nIAE nIAE) (by decide +kernel))) hce hcv hcl ?_
            refine W.eq (g2 := F0 m 134 ls [.ref q9]) rfl ?_
            refine lv_astore (lv' := [(6, .ref q9), (0, .ref (α 0 0 0)), (1, .int how), (2, .int a), (3, .int b), (4, .int c_), (5, .int d)]) hx hb dL_does_134 hl (by decide) rfl (fun ls hl => ?_)
            refine lv_ldc (own := RL) (v := -900000001) hx hb hown (hts (.constant RL 44 (-900000001)) (by decide +kernel)) dL_does_136 ?_
            exact fw_iret hx hb hr hlocks hw (Nat.le_of_ble_eq_true rfl) (Nat.le_of_ble_eq_true rfl) dL_does_138 (Or.inl ⟨(by rw [doesF, if_neg h0, if_neg h1, if_pos h2] : doesF how a b c_ d S = _).trans hth, rfl, rfl⟩)
          · refine vx_catch (own := RL) (name := nISE) (E := nISE) hown [(⟨0, 128, 129, 42⟩ : ExceptionTableEntry), (⟨0, 128, 134, 45⟩ : ExceptionTableEntry)] (⟨0, 128, 139, 47⟩ : ExceptionTableEntry) [] htab (fun z hz => by
                simp only [List.mem_cons, List.not_mem_nil, or_false] at hz
                rcases hz with rfl | rfl
                · exact Or.inr ⟨by decide, nIOB, hts (.classLink RL 42 nIOB) (by decide +kernel), hE.1.2.2.2.2.2.2.1⟩
                · exact Or.inr ⟨by decide, nIAE, hts (.classLink RL 45 nIAE) (by decide +kernel), hE.1.2.2.2.2.2.2.2⟩) rfl (by decide) (hts (.classLink RL 47 nISE) (by decide +kernel)) (va_Nw.use rfl (hE.1.2.2.1 (.castable nISE nISE) (by decide +kernel))) hce hcv hcl ?_
            refine W.eq (g2 := F0 m 139 ls [.ref q9]) rfl ?_
            refine lv_astore (lv' := [(6, .ref q9), (0, .ref (α 0 0 0)), (1, .int how), (2, .int a), (3, .int b), (4, .int c_), (5, .int d)]) hx hb dL_does_139 hl (by decide) rfl (fun ls hl => ?_)
            refine lv_ldc (own := RL) (v := -900000001) hx hb hown (hts (.constant RL 44 (-900000001)) (by decide +kernel)) dL_does_141 ?_
            exact fw_iret hx hb hr hlocks hw (Nat.le_of_ble_eq_true rfl) (Nat.le_of_ble_eq_true rfl) dL_does_143 (Or.inl ⟨(by rw [doesF, if_neg h0, if_neg h1, if_pos h2] : doesF how a b c_ d S = _).trans hth, rfl, rfl⟩)
        · refine lv_goto (tgt := 128) hx hb dL_does_43 (by decide) ?_
          exact fw_iret hx hb hr hlocks hw (Nat.le_of_ble_eq_true rfl) (Nat.le_of_ble_eq_true rfl) dL_does_128 (by obtain ⟨S2, α2, q1, q2, q3⟩ := hp29; exact Or.inr ⟨S2, α2, (by rw [doesF, if_neg h0, if_neg h1, if_pos h2] : doesF how a b c_ d S = _).trans q1, q2, q3⟩)
    · have h1 := c_2
      refine lv_aload_n hx hb dL_does_17 rfl (lv_at hl 0 rfl) ?_
      refine lv_iload_n hx hb dL_does_18 rfl (lv_at hl 2 rfl) ?_
      refine lv_iload_n hx hb dL_does_19 rfl (lv_at hl 3 rfl) ?_
      refine lv_iload hx hb dL_does_20 (lv_at hl 4 rfl) ?_
      refine fw_xVi hx hb hml hown hts hE hw [.int a, .int b, .int c_] [] (x_setRank (D := D) (A := A) (sa := sa) hfl a b c_ hI hR) (cwV 3 hts gL_does_X8_setRank rfl rfl rfl (by decide +kernel) ⟨Nat.le_of_ble_eq_true rfl, Nat.le_of_ble_eq_true rfl⟩) (ci := 8) rfl rfl hR.x rfl hl.1 rfl (Nat.le_of_ble_eq_true rfl) dL_does_22 ⟨Nat.le_of_ble_eq_true rfl, Nat.le_of_ble_eq_true rfl⟩ (fun E ce q9 H locs hth hw hce hcv hcl => ?_) (fun r30 f31 H locs hp32 hw => ?_)
      · rcases hth with ⟨(rfl | rfl | rfl), hth⟩
        · refine vx_catch (own := RL) (name := nIOB) (E := nIOB) hown [] (⟨0, 128, 129, 42⟩ : ExceptionTableEntry) [(⟨0, 128, 134, 45⟩ : ExceptionTableEntry), (⟨0, 128, 139, 47⟩ : ExceptionTableEntry)] htab (fun z hz => absurd hz List.not_mem_nil) rfl (by decide) (hts (.classLink RL 42 nIOB) (by decide +kernel)) (va_Nw.use rfl (hE.1.2.2.1 (.castable nIOB nIOB) (by decide +kernel))) hce hcv hcl ?_
          refine W.eq (g2 := F0 m 129 ls [.ref q9]) rfl ?_
          refine lv_astore (lv' := [(6, .ref q9), (0, .ref (α 0 0 0)), (1, .int how), (2, .int a), (3, .int b), (4, .int c_), (5, .int d)]) hx hb dL_does_129 hl (by decide) rfl (fun ls hl => ?_)
          refine lv_ldc (own := RL) (v := -900000001) hx hb hown (hts (.constant RL 44 (-900000001)) (by decide +kernel)) dL_does_131 ?_
          exact fw_iret hx hb hr hlocks hw (Nat.le_of_ble_eq_true rfl) (Nat.le_of_ble_eq_true rfl) dL_does_133 (Or.inl ⟨(by rw [doesF, if_neg h0, if_pos h1] : doesF how a b c_ d S = _).trans hth, rfl, rfl⟩)
        · refine vx_catch (own := RL) (name := nIAE) (E := nIAE) hown [(⟨0, 128, 129, 42⟩ : ExceptionTableEntry)] (⟨0, 128, 134, 45⟩ : ExceptionTableEntry) [(⟨0, 128, 139, 47⟩ : ExceptionTableEntry)] htab (fun z hz => by simp only [List.mem_cons, List.not_mem_nil, or_false] at hz; subst hz; exact Or.inr ⟨by decide, nIOB, hts (.classLink RL 42 nIOB) (by decide +kernel), hE.1.2.2.2.2.2.1⟩) rfl (by decide) (hts (.classLink RL 45 nIAE) (by decide +kernel)) (va_Nw.use rfl (hE.1.2.2.1 (.castable nIAE nIAE) (by decide +kernel))) hce hcv hcl ?_
          refine W.eq (g2 := F0 m 134 ls [.ref q9]) rfl ?_
          refine lv_astore (lv' := [(6, .ref q9), (0, .ref (α 0 0 0)), (1, .int how), (2, .int a), (3, .int b), (4, .int c_), (5, .int d)]) hx hb dL_does_134 hl (by decide) rfl (fun ls hl => ?_)
          refine lv_ldc (own := RL) (v := -900000001) hx hb hown (hts (.constant RL 44 (-900000001)) (by decide +kernel)) dL_does_136 ?_
          exact fw_iret hx hb hr hlocks hw (Nat.le_of_ble_eq_true rfl) (Nat.le_of_ble_eq_true rfl) dL_does_138 (Or.inl ⟨(by rw [doesF, if_neg h0, if_pos h1] : doesF how a b c_ d S = _).trans hth, rfl, rfl⟩)
        · refine vx_catch (own := RL) (name := nISE) (E := nISE) hown [(⟨0, 128, 129, 42⟩ : ExceptionTableEntry), (⟨0, 128, 134, 45⟩ : ExceptionTableEntry)] (⟨0, 128, 139, 47⟩ : ExceptionTableEntry) [] htab (fun z hz => by
              simp only [List.mem_cons, List.not_mem_nil, or_false] at hz
              rcases hz with rfl | rfl
              · exact Or.inr ⟨by decide, nIOB, hts (.classLink RL 42 nIOB) (by decide +kernel), hE.1.2.2.2.2.2.2.1⟩
              · exact Or.inr ⟨by decide, nIAE, hts (.classLink RL 45 nIAE) (by decide +kernel), hE.1.2.2.2.2.2.2.2⟩) rfl (by decide) (hts (.classLink RL 47 nISE) (by decide +kernel)) (va_Nw.use rfl (hE.1.2.2.1 (.castable nISE nISE) (by decide +kernel))) hce hcv hcl ?_
          refine W.eq (g2 := F0 m 139 ls [.ref q9]) rfl ?_
          refine lv_astore (lv' := [(6, .ref q9), (0, .ref (α 0 0 0)), (1, .int how), (2, .int a), (3, .int b), (4, .int c_), (5, .int d)]) hx hb dL_does_139 hl (by decide) rfl (fun ls hl => ?_)
          refine lv_ldc (own := RL) (v := -900000001) hx hb hown (hts (.constant RL 44 (-900000001)) (by decide +kernel)) dL_does_141 ?_
          exact fw_iret hx hb hr hlocks hw (Nat.le_of_ble_eq_true rfl) (Nat.le_of_ble_eq_true rfl) dL_does_143 (Or.inl ⟨(by rw [doesF, if_neg h0, if_pos h1] : doesF how a b c_ d S = _).trans hth, rfl, rfl⟩)
      · refine lv_goto (tgt := 128) hx hb dL_does_25 (by decide) ?_
        exact fw_iret hx hb hr hlocks hw (Nat.le_of_ble_eq_true rfl) (Nat.le_of_ble_eq_true rfl) dL_does_128 (by obtain ⟨S2, α2, q1, q2, q3⟩ := hp32; exact Or.inr ⟨S2, α2, (by rw [doesF, if_neg h0, if_pos h1] : doesF how a b c_ d S = _).trans q1, q2, q3⟩)
  · have h0 := c_1
    refine lv_aload_n hx hb dL_does_4 rfl (lv_at hl 0 rfl) ?_
    refine lv_iload_n hx hb dL_does_5 rfl (lv_at hl 2 rfl) ?_
    refine fw_xVi hx hb hml hown hts hE hw [.int a] [] (x_addWorker (D := D) (A := A) (sa := sa) hfl a hI hR) (cwV 1 hts gL_does_X8_addWorker rfl rfl rfl (by decide +kernel) ⟨Nat.le_of_ble_eq_true rfl, Nat.le_of_ble_eq_true rfl⟩) (ci := 8) rfl rfl hR.x rfl hl.1 rfl (Nat.le_of_ble_eq_true rfl) dL_does_6 ⟨Nat.le_of_ble_eq_true rfl, Nat.le_of_ble_eq_true rfl⟩ (fun E ce q9 H locs hth hw hce hcv hcl => ?_) (fun r33 f34 H locs hp35 hw => ?_)
    · rcases hth with ⟨(rfl | rfl | rfl), hth⟩
      · refine vx_catch (own := RL) (name := nIOB) (E := nIOB) hown [] (⟨0, 128, 129, 42⟩ : ExceptionTableEntry) [(⟨0, 128, 134, 45⟩ : ExceptionTableEntry), (⟨0, 128, 139, 47⟩ : ExceptionTableEntry)] htab (fun z hz => absurd hz List.not_mem_nil) rfl (by decide) (hts (.classLink RL 42 nIOB) (by decide +kernel)) (va_Nw.use rfl (hE.1.2.2.1 (.castable nIOB nIOB) (by decide +kernel))) hce hcv hcl ?_
        refine W.eq (g2 := F0 m 129 ls [.ref q9]) rfl ?_
        refine lv_astore (lv' := [(6, .ref q9), (0, .ref (α 0 0 0)), (1, .int how), (2, .int a), (3, .int b), (4, .int c_), (5, .int d)]) hx hb dL_does_129 hl (by decide) rfl (fun ls hl => ?_)
        refine lv_ldc (own := RL) (v := -900000001) hx hb hown (hts (.constant RL 44 (-900000001)) (by decide +kernel)) dL_does_131 ?_
        exact fw_iret hx hb hr hlocks hw (Nat.le_of_ble_eq_true rfl) (Nat.le_of_ble_eq_true rfl) dL_does_133 (Or.inl ⟨(by rw [doesF, if_pos h0] : doesF how a b c_ d S = _).trans hth, rfl, rfl⟩)
      · refine vx_catch (own := RL) (name := nIAE) (E := nIAE) hown [(⟨0, 128, 129, 42⟩ : ExceptionTableEntry)] (⟨0, 128, 134, 45⟩ : ExceptionTableEntry) [(⟨0, 128, 139, 47⟩ : ExceptionTableEntry)] htab (fun z hz => by simp only [List.mem_cons, List.not_mem_nil, or_false] at hz; subst hz; exact Or.inr ⟨by decide, nIOB, hts (.classLink RL 42 nIOB) (by decide +kernel), hE.1.2.2.2.2.2.1⟩) rfl (by decide) (hts (.classLink RL 45 nIAE) (by decide +kernel)) (va_Nw.use rfl (hE.1.2.2.1 (.castable nIAE nIAE) (by decide +kernel))) hce hcv hcl ?_
        refine W.eq (g2 := F0 m 134 ls [.ref q9]) rfl ?_
        refine lv_astore (lv' := [(6, .ref q9), (0, .ref (α 0 0 0)), (1, .int how), (2, .int a), (3, .int b), (4, .int c_), (5, .int d)]) hx hb dL_does_134 hl (by decide) rfl (fun ls hl => ?_)
        refine lv_ldc (own := RL) (v := -900000001) hx hb hown (hts (.constant RL 44 (-900000001)) (by decide +kernel)) dL_does_136 ?_
        exact fw_iret hx hb hr hlocks hw (Nat.le_of_ble_eq_true rfl) (Nat.le_of_ble_eq_true rfl) dL_does_138 (Or.inl ⟨(by rw [doesF, if_pos h0] : doesF how a b c_ d S = _).trans hth, rfl, rfl⟩)
      · refine vx_catch (own := RL) (name := nISE) (E := nISE) hown [(⟨0, 128, 129, 42⟩ : ExceptionTableEntry), (⟨0, 128, 134, 45⟩ : ExceptionTableEntry)] (⟨0, 128, 139, 47⟩ : ExceptionTableEntry) [] htab (fun z hz => by
            simp only [List.mem_cons, List.not_mem_nil, or_false] at hz
            rcases hz with rfl | rfl
            · exact Or.inr ⟨by decide, nIOB, hts (.classLink RL 42 nIOB) (by decide +kernel), hE.1.2.2.2.2.2.2.1⟩
            · exact Or.inr ⟨by decide, nIAE, hts (.classLink RL 45 nIAE) (by decide +kernel), hE.1.2.2.2.2.2.2.2⟩) rfl (by decide) (hts (.classLink RL 47 nISE) (by decide +kernel)) (va_Nw.use rfl (hE.1.2.2.1 (.castable nISE nISE) (by decide +kernel))) hce hcv hcl ?_
        refine W.eq (g2 := F0 m 139 ls [.ref q9]) rfl ?_
        refine lv_astore (lv' := [(6, .ref q9), (0, .ref (α 0 0 0)), (1, .int how), (2, .int a), (3, .int b), (4, .int c_), (5, .int d)]) hx hb dL_does_139 hl (by decide) rfl (fun ls hl => ?_)
        refine lv_ldc (own := RL) (v := -900000001) hx hb hown (hts (.constant RL 44 (-900000001)) (by decide +kernel)) dL_does_141 ?_
        exact fw_iret hx hb hr hlocks hw (Nat.le_of_ble_eq_true rfl) (Nat.le_of_ble_eq_true rfl) dL_does_143 (Or.inl ⟨(by rw [doesF, if_pos h0] : doesF how a b c_ d S = _).trans hth, rfl, rfl⟩)
    · refine lv_goto (tgt := 128) hx hb dL_does_9 (by decide) ?_
      exact fw_iret hx hb hr hlocks hw (Nat.le_of_ble_eq_true rfl) (Nat.le_of_ble_eq_true rfl) dL_does_128 (by obtain ⟨S2, α2, q1, q2, q3⟩ := hp35; exact Or.inr ⟨S2, α2, (by rw [doesF, if_pos h0] : doesF how a b c_ d S = _).trans q1, q2, q3⟩)

set_option maxHeartbeats 4000000 in
set_option maxRecDepth 100000 in
/-- the law: come -/
theorem c_L_come (l : Launch) (D : va_G) (A : Nat → Prop) (y : Nat → ClassId) (sa : Nat → Nat) (f : fw_F) (hfl : l.stackTraces = false) (α : Nat → Nat → Nat → Nat) (S : pS) (p0 p1 p2 p3 p4 : Int32) (hI : IS S) (hR : RS y S α f) : Met l yL_come wsL_come ({ frames := 9, cells := 6, slots := 33, locals := 157 } : Room) (cPc D A y sa f [.ref (α 0 0 0), .int p0, .int p1, .int p2, .int p3, .int p4]) (cQi D A (dPo y f α (comeF p0 p1 p2 p3 p4 S))) 6 33 A := by
  refine fw_hmet (by decide) rfl [.ref (α 0 0 0), .int p0, .int p1, .int p2, .int p3, .int p4] (Nat.le_of_ble_eq_true rfl) ?_
  intro p e s m args below meth c ls I htab hE hw hl
  obtain ⟨hx, hb, hr, hts, hown, hlocks, hml⟩ := I
  have hown : s.vm.findClass RL = some m.cls := hown
  have hl : lv_has ls 7 [(0, .ref (α 0 0 0)), (1, .int p0), (2, .int p1), (3, .int p2), (4, .int p3), (5, .int p4)] := hl
  refine lv_aload_n hx hb dL_come_0 rfl (lv_at hl 0 rfl) ?_
  refine lv_iload_n hx hb dL_come_1 rfl (lv_at hl 1 rfl) ?_
  refine lv_iload_n hx hb dL_come_2 rfl (lv_at hl 2 rfl) ?_
  refine lv_iload_n hx hb dL_come_3 rfl (lv_at hl 3 rfl) ?_
  refine lv_iload hx hb dL_come_4 (lv_at hl 4 rfl) ?_
  refine lv_iload hx hb dL_come_6 (lv_at hl 5 rfl) ?_
  refine fw_xVi hx hb hml hown hts hE hw [.int p0, .int p1, .int p2, .int p3, .int p4] [] (x_come (D := D) (A := A) (sa := sa) hfl p0 p1 p2 p3 p4 hI hR) (cwV 5 hts gL_come_X8_come rfl rfl rfl (by decide +kernel) ⟨Nat.le_of_ble_eq_true rfl, Nat.le_of_ble_eq_true rfl⟩) (ci := 8) rfl rfl hR.x rfl hl.1 rfl (Nat.le_of_ble_eq_true rfl) dL_come_8 ⟨Nat.le_of_ble_eq_true rfl, Nat.le_of_ble_eq_true rfl⟩ (fun E ce q9 H locs hth hw hce hcv hcl => ?_) (fun r1 f2 H locs hp3 hw => ?_)
  · rcases hth with ⟨(rfl | rfl), hth⟩
    · refine vx_catch (own := RL) (name := nIOB) (E := nIOB) hown [] (⟨0, 11, 12, 42⟩ : ExceptionTableEntry) [(⟨0, 11, 17, 45⟩ : ExceptionTableEntry)] htab (fun z hz => absurd hz List.not_mem_nil) rfl (by decide) (hts (.classLink RL 42 nIOB) (by decide +kernel)) (va_Nw.use rfl (hE.1.2.2.1 (.castable nIOB nIOB) (by decide +kernel))) hce hcv hcl ?_
      refine W.eq (g2 := F0 m 12 ls [.ref q9]) rfl ?_
      refine lv_astore (lv' := [(6, .ref q9), (0, .ref (α 0 0 0)), (1, .int p0), (2, .int p1), (3, .int p2), (4, .int p3), (5, .int p4)]) hx hb dL_come_12 hl (by decide) rfl (fun ls hl => ?_)
      refine lv_ldc (own := RL) (v := -900000001) hx hb hown (hts (.constant RL 44 (-900000001)) (by decide +kernel)) dL_come_14 ?_
      exact fw_iret hx hb hr hlocks hw (Nat.le_of_ble_eq_true rfl) (Nat.le_of_ble_eq_true rfl) dL_come_16 (Or.inl ⟨hth, rfl, rfl⟩)
    · refine vx_catch (own := RL) (name := nIAE) (E := nIAE) hown [(⟨0, 11, 12, 42⟩ : ExceptionTableEntry)] (⟨0, 11, 17, 45⟩ : ExceptionTableEntry) [] htab (fun z hz => by simp only [List.mem_cons, List.not_mem_nil, or_false] at hz; subst hz; exact Or.inr ⟨by decide, nIOB, hts (.classLink RL 42 nIOB) (by decide +kernel), hE.1.2.2.2.2.2.1⟩) rfl (by decide) (hts (.classLink RL 45 nIAE) (by decide +kernel)) (va_Nw.use rfl (hE.1.2.2.1 (.castable nIAE nIAE) (by decide +kernel))) hce hcv hcl ?_
      refine W.eq (g2 := F0 m 17 ls [.ref q9]) rfl ?_
      refine lv_astore (lv' := [(6, .ref q9), (0, .ref (α 0 0 0)), (1, .int p0), (2, .int p1), (3, .int p2), (4, .int p3), (5, .int p4)]) hx hb dL_come_17 hl (by decide) rfl (fun ls hl => ?_)
      refine lv_ldc (own := RL) (v := -900000001) hx hb hown (hts (.constant RL 44 (-900000001)) (by decide +kernel)) dL_come_19 ?_
      exact fw_iret hx hb hr hlocks hw (Nat.le_of_ble_eq_true rfl) (Nat.le_of_ble_eq_true rfl) dL_come_21 (Or.inl ⟨hth, rfl, rfl⟩)
  · exact fw_iret hx hb hr hlocks hw (Nat.le_of_ble_eq_true rfl) (Nat.le_of_ble_eq_true rfl) dL_come_11 (Or.inr hp3)

/-- what is left of an order, as the law looks at it -/
def leftF (k : Nat) (S : pS) : Int32 := if k < S.2.1 then S.2.2.2.2 15 k 2 else -900000001
def ackF (k : Nat) (S : pS) : Int32 := if k < S.1 then S.2.2.2.2 4 k 1 else -900000001
theorem vx_look {l : Launch} {D : va_G} {A : Nat → Prop} {y : Nat → ClassId} {sa : Nat → Nat} {f g h : fw_F} {yy : MethodName} {ws : List Cond} {rm : Room} {av : List Value} {mc ms : Nat} {P : Int32 → Prop} {thr : String → Prop} (hd : fw_dis f g) (e : h = fw_or f g) (hM : ∀ A, vx_Met l yy ws rm (cPc D A y sa f av) (cQi D A (fun r f1 => P r ∧ f1 = f)) (cX D A f thr) mc ms A) : vx_Met l yy ws rm (cPc D A y sa h av) (cQi D A (fun r h1 => P r ∧ h1 = h)) (cX D A h thr) mc ms A := by
  subst e
  refine MetFree.mono (hM (fw_A A g)) (fun a s hp => ⟨hp.1, hp.2.1.left hd, hp.2.2.apart (hp.2.1.right hd)⟩) (fun _ _ _ _ _ q => q) (fun a s o t hp hq => ?_)
  rcases hq with ⟨⟨⟨r, u, e1, ⟨e2, rfl⟩, e3⟩, hF⟩, L, hE, hL⟩ | ⟨q, e0, E, ce, L, ⟨u, h1, h2, hF⟩, h4, h5, h6, h7, h8, h9⟩
  · have hg := fw_left_stands (hp.2.1.right hd) hF.1 hF.2
    exact Or.inl ⟨⟨⟨r, _, e1, ⟨e2, rfl⟩, (e3.join hg).1⟩, hF.1, fun q h1 h2 => hF.2 q h1 (fun z => h2 z.1)⟩, L, hE, fun q hq => (hL q hq).1⟩
  · have hg := fw_left_stands (hp.2.1.right hd) hF.1 hF.2
    exact Or.inr ⟨q, e0, E, ce, L, ⟨u, h1, ⟨h2.1, (h2.2.join hg).1⟩, hF.1, fun q h1 h2 => hF.2 q h1 (fun z => h2 z.1)⟩, h4, h5, h6, h7, h8, fun z hz => (h9 z hz).1⟩
theorem x_left {l : Launch} {D : va_G} {A : Nat → Prop} {y : Nat → ClassId} {sa : Nat → Nat} {h : fw_F} {α : Nat → Nat → Nat → Nat} {S : pS} (hfl : l.stackTraces = false) (hI : IS S) (hH : RH y S α h) {k : Nat} (hk : k < 1000) : vx_Met l yX8_left wsX8_left ({ frames := 6, cells := 1, slots := 6, locals := 88 } : Room) (cPc D A y sa h [.ref (α 0 0 0), .int (nI k)]) (cQi D A (fun r h1 => r = leftF k S ∧ h1 = h)) (cX D A h (fun E => E = nIOB ∧ leftF k S = -900000001)) 1 6 A := by
  have h9 := hI.2.1
  obtain ⟨f, g, h1, h2, e⟩ := hH
  refine vx_look h2 e (fun A => vx_post (c_X8_left l D A y sa f hfl α S.2.2.2.2 S.1 S.2.1 S.2.2.1 S.2.2.2.1 (nI k) hI h1) (fun r f1 hq => ?_) (fun E q => ⟨q.1, if_neg (fun z => q.2 (inr_wI z (by omega)))⟩))
  obtain ⟨o, q1, q2, q3, q4⟩ := hq
  obtain rfl := nI_inj2 q2 (by omega) (by omega)
  exact ⟨q3.trans (if_pos q1).symm, q4⟩
theorem x_ack {l : Launch} {D : va_G} {A : Nat → Prop} {y : Nat → ClassId} {sa : Nat → Nat} {h : fw_F} {α : Nat → Nat → Nat → Nat} {S : pS} (hfl : l.stackTraces = false) (hI : IS S) (hH : RH y S α h) {k : Nat} (hk : k < 1000) : vx_Met l yX8_acknowledged wsX8_acknowledged ({ frames := 7, cells := 1, slots := 6, locals := 110 } : Room) (cPc D A y sa h [.ref (α 0 0 0), .int (nI k)]) (cQi D A (fun r h1 => r = ackF k S ∧ h1 = h)) (cX D A h (fun E => E = nIOB ∧ ackF k S = -900000001)) 1 6 A := by
  have h9 := hI.1
  obtain ⟨f, g, h1, h2, e⟩ := hH
  refine vx_look h2 e (fun A => vx_post (c_X8_acknowledged l D A y sa f hfl α S.2.2.2.2 S.1 S.2.1 S.2.2.1 S.2.2.2.1 (nI k) hI h1) (fun r f1 hq => ?_) (fun E q => ⟨q.1, if_neg (fun z => q.2 (inr_wI z (by omega)))⟩))
  obtain ⟨o, q1, q2, q3, q4⟩ := hq
  obtain rfl := nI_inj2 q2 (by omega) (by omega)
  exact ⟨q3.trans (if_pos q1).symm, q4⟩
set_option maxHeartbeats 4000000 in
set_option maxRecDepth 100000 in
/-- the law: looks (left) -/
theorem c_L_looks_left (l : Launch) (D : va_G) (A : Nat → Prop) (y : Nat → ClassId) (sa : Nat → Nat) (h : fw_F) (hfl : l.stackTraces = false) (α : Nat → Nat → Nat → Nat) (S : pS) (k : Nat) (hk : k < 1000) (hI : IS S) (hH : RH y S α h) : Met l yL_looks wsL_looks ({ frames := 8, cells := 1, slots := 6, locals := 131 } : Room) (cPc D A y sa h [.ref (α 0 0 0), .int 1, .int (nI k)]) (cQi D A (fun r h1 => r = leftF k S ∧ h1 = h)) 1 6 A := by
  refine fw_hmet (by decide) rfl [.ref (α 0 0 0), .int 1, .int (nI k)] (Nat.le_of_ble_eq_true rfl) ?_
  intro p e s m args below meth c ls I htab hE hw hl
  obtain ⟨hx, hb, hr, hts, hown, hlocks, hml⟩ := I
  have hown : s.vm.findClass RL = some m.cls := hown
  have hl : lv_has ls 4 [(0, .ref (α 0 0 0)), (1, .int 1), (2, .int (nI k))] := hl
  refine lv_iload_n hx hb dL_looks_0 rfl (lv_at hl 1 rfl) ?_
  refine lv_if_ne (tgt := 12) hx hb dL_looks_1 (by decide) (fun _ => ?_) (fun c_1 => absurd c_1 (by decide))
  refine lv_iload_n hx hb dL_looks_12 rfl (lv_at hl 1 rfl) ?_
  refine lv_iconst (v := 1) hx hb dL_looks_13 (by decide) ?_
  refine lv_icmp_ne (tgt := 25) hx hb dL_looks_14 (by decide) (fun c_2 => absurd c_2 (by decide)) (fun _ => ?_)
  refine lv_aload_n hx hb dL_looks_17 rfl (lv_at hl 0 rfl) ?_
  refine lv_iload_n hx hb dL_looks_18 rfl (lv_at hl 2 rfl) ?_
  refine fw_xVi hx hb hml hown hts hE hw [.int (nI k)] [] (x_left (D := D) (A := A) (sa := sa) hfl hI hH hk) (cwV 1 hts gL_looks_X8_left rfl rfl rfl (by decide +kernel) ⟨Nat.le_of_ble_eq_true rfl, Nat.le_of_ble_eq_true rfl⟩) (ci := 8) rfl rfl hH.x rfl hl.1 rfl (Nat.le_of_ble_eq_true rfl) dL_looks_19 ⟨Nat.le_of_ble_eq_true rfl, Nat.le_of_ble_eq_true rfl⟩ (fun E ce q9 H locs hth hw hce hcv hcl => ?_) (fun r3 f4 H locs hp5 hw => ?_)
  · obtain ⟨rfl, hth⟩ := hth
    refine vx_catch (own := RL) (name := nIOB) (E := nIOB) hown [] (⟨0, 43, 44, 42⟩ : ExceptionTableEntry) [] htab (fun z hz => absurd hz List.not_mem_nil) rfl (by decide) (hts (.classLink RL 42 nIOB) (by decide +kernel)) (va_Nw.use rfl (hE.1.2.2.1 (.castable nIOB nIOB) (by decide +kernel))) hce hcv hcl ?_
    refine W.eq (g2 := F0 m 44 ls [.ref q9]) rfl ?_
    refine lv_astore_n (lv' := [(3, .ref q9), (0, .ref (α 0 0 0)), (1, .int 1), (2, .int (nI k))]) hx hb dL_looks_44 rfl hl (by decide) rfl (fun ls hl => ?_)
    refine lv_ldc (own := RL) (v := -900000001) hx hb hown (hts (.constant RL 44 (-900000001)) (by decide +kernel)) dL_looks_45 ?_
    exact fw_iret hx hb hr hlocks hw (Nat.le_of_ble_eq_true rfl) (Nat.le_of_ble_eq_true rfl) dL_looks_47 (⟨hth.symm, rfl⟩)
  · obtain ⟨hp5a, hp5b⟩ := hp5
    rw [hp5b] at hw
    refine lv_goto (tgt := 43) hx hb dL_looks_22 (by decide) ?_
    exact fw_iret hx hb hr hlocks hw (Nat.le_of_ble_eq_true rfl) (Nat.le_of_ble_eq_true rfl) dL_looks_43 (⟨hp5a, rfl⟩)

set_option maxHeartbeats 4000000 in
set_option maxRecDepth 100000 in
/-- the law: looks (acknowledged) -/
theorem c_L_looks_ack (l : Launch) (D : va_G) (A : Nat → Prop) (y : Nat → ClassId) (sa : Nat → Nat) (h : fw_F) (hfl : l.stackTraces = false) (α : Nat → Nat → Nat → Nat) (S : pS) (k : Nat) (hk : k < 1000) (hI : IS S) (hH : RH y S α h) : Met l yL_looks wsL_looks ({ frames := 8, cells := 1, slots := 6, locals := 131 } : Room) (cPc D A y sa h [.ref (α 0 0 0), .int 0, .int (nI k)]) (cQi D A (fun r h1 => r = ackF k S ∧ h1 = h)) 1 6 A := by
  refine fw_hmet (by decide) rfl [.ref (α 0 0 0), .int 0, .int (nI k)] (Nat.le_of_ble_eq_true rfl) ?_
  intro p e s m args below meth c ls I htab hE hw hl
  obtain ⟨hx, hb, hr, hts, hown, hlocks, hml⟩ := I
  have hown : s.vm.findClass RL = some m.cls := hown
  have hl : lv_has ls 4 [(0, .ref (α 0 0 0)), (1, .int 0), (2, .int (nI k))] := hl
  refine lv_iload_n hx hb dL_looks_0 rfl (lv_at hl 1 rfl) ?_
  refine lv_if_ne (tgt := 12) hx hb dL_looks_1 (by decide) (fun c_1 => absurd c_1 (by decide)) (fun _ => ?_)
  refine lv_aload_n hx hb dL_looks_4 rfl (lv_at hl 0 rfl) ?_
  refine lv_iload_n hx hb dL_looks_5 rfl (lv_at hl 2 rfl) ?_
  refine fw_xVi hx hb hml hown hts hE hw [.int (nI k)] [] (x_ack (D := D) (A := A) (sa := sa) hfl hI hH hk) (cwV 1 hts gL_looks_X8_acknowledged rfl rfl rfl (by decide +kernel) ⟨Nat.le_of_ble_eq_true rfl, Nat.le_of_ble_eq_true rfl⟩) (ci := 8) rfl rfl hH.x rfl hl.1 rfl (Nat.le_of_ble_eq_true rfl) dL_looks_6 ⟨Nat.le_of_ble_eq_true rfl, Nat.le_of_ble_eq_true rfl⟩ (fun E ce q9 H locs hth hw hce hcv hcl => ?_) (fun r2 f3 H locs hp4 hw => ?_)
  · obtain ⟨rfl, hth⟩ := hth
    refine vx_catch (own := RL) (name := nIOB) (E := nIOB) hown [] (⟨0, 43, 44, 42⟩ : ExceptionTableEntry) [] htab (fun z hz => absurd hz List.not_mem_nil) rfl (by decide) (hts (.classLink RL 42 nIOB) (by decide +kernel)) (va_Nw.use rfl (hE.1.2.2.1 (.castable nIOB nIOB) (by decide +kernel))) hce hcv hcl ?_
    refine W.eq (g2 := F0 m 44 ls [.ref q9]) rfl ?_
    refine lv_astore_n (lv' := [(3, .ref q9), (0, .ref (α 0 0 0)), (1, .int 0), (2, .int (nI k))]) hx hb dL_looks_44 rfl hl (by decide) rfl (fun ls hl => ?_)
    refine lv_ldc (own := RL) (v := -900000001) hx hb hown (hts (.constant RL 44 (-900000001)) (by decide +kernel)) dL_looks_45 ?_
    exact fw_iret hx hb hr hlocks hw (Nat.le_of_ble_eq_true rfl) (Nat.le_of_ble_eq_true rfl) dL_looks_47 (⟨hth.symm, rfl⟩)
  · obtain ⟨hp4a, hp4b⟩ := hp4
    rw [hp4b] at hw
    refine lv_goto (tgt := 43) hx hb dL_looks_9 (by decide) ?_
    exact fw_iret hx hb hr hlocks hw (Nat.le_of_ble_eq_true rfl) (Nat.le_of_ble_eq_true rfl) dL_looks_43 (⟨hp4a, rfl⟩)
