set_option maxHeartbeats 4000000 in
set_option maxRecDepth 100000 in
theorem lw_88 {p : Program} {e : Env} {s : State} {m : MethodId} {below : List Frame} {meth : Method} {c : Code} {l : Launch} {b L : Nat} {xs : Nat → Int32} {D : va_G} {y : Nat → ClassId} {sa : Nat → Nat} (hfl : l.stackTraces = false) (C0 : lw_At p s m meth c b L xs) (hL : L ≤ 260) (hE : fw_E D (fun q => s.heap.size ≤ q) y sa s) {x z : Nat} {i : Nat} (hi : i < 110) (n nS : Nat) (hn : n + 16 ≤ 663013) (hs : nS + 262 ≤ 7112659)
    (k : ∀ (v : Int32) (S : pS) (h : fw_F) (H : Heap) (locs : List Loc) (ls : Array Slot), LwS y x z S h → fw_S D (fun q => s.heap.size ≤ q) s.heap h H locs → lv_has ls 7 [(4, .int (nI i)), (5, .int v), (3, .int 1), (0, .ref b), (1, .ref x), (2, .ref z)] → W p l e room_1 s m #[Value.ref b] below meth c H locs (n + 16) (nS + 262) (lw_Z below #[Value.ref b] s) (F0 m 146 ls [])) :
    ∀ (S : pS) (h : fw_F) (H : Heap) (locs : List Loc) (ls : Array Slot), LwS y x z S h → fw_S D (fun q => s.heap.size ≤ q) s.heap h H locs → lv_has ls 7 [(4, .int (nI i)), (3, .int 1), (0, .ref b), (1, .ref x), (2, .ref z)] → W p l e room_1 s m #[Value.ref b] below meth c H locs n nS (lw_Z below #[Value.ref b] s) (F0 m 88 ls []) := by
  obtain ⟨hx, hb, hr, hml, hown, hts0, hX, hbl, hlocks, hgv⟩ := id C0
  have hown : s.vm.findClass RL = some m.cls := hown
  have hts : ∀ w ∈ wsL_law, w.before #[Value.ref b] s = true := fun w h => hts0 w (wsL_law_in w h)
  intro S h H locs ls hQ hw hl
  obtain ⟨hJ, h3, α, β, f, g, hα, hβ, hR, hG, hd, rfl⟩ := hQ
  have hI := hJ.1
  have hN := hJ.nS
  have hH : RH y S α (fw_or f g) := RH.l hR hd
  have hH2 : RH y S β (fw_or f g) := RH.r hG hd
  have hl : lv_has ls 7 [(4, .int (nI i)), (3, .int 1), (0, .ref b), (1, .ref (α 0 0 0)), (2, .ref (β 0 0 0))] := by rw [hα, hβ]; exact hl
  have hbA : ¬ (fun q => s.heap.size ≤ q) b := Nat.not_le.mpr hbl
  refine lv_iload hx hb dL_law_88 (lv_at hl 0 rfl) ?_
  refine lv_bipush (v := 110) hx hb dL_law_90 (by decide) ?_
  refine lv_icmp_ge (tgt := 271) hx hb dL_law_92 (by decide) (fun c_1 => absurd c_1 (nI_ge hi (by decide))) (fun _ => ?_)
  refine lv_iload_n hx hb dL_law_95 rfl (lv_at hl 1 rfl) ?_
  refine lv_if_eq (tgt := 271) hx hb dL_law_96 (by decide) (fun c_2 => absurd c_2 (by decide)) (fun _ => ?_)
  refine lv_aload_n hx hb dL_law_99 rfl (lv_at hl 2 rfl) ?_
  refine lv_iload hx hb dL_law_100 (lv_at hl 0 rfl) ?_
  refine lv_bipush (v := 61) hx hb dL_law_102 (by decide) ?_
  refine lv_irem hx hb dL_law_104 (by decide) ?_
  rw [show (((nI i) - (nI i) / 61 * 61) : Int32) = nI (i % 61) from nI_rem (by omega) (by decide) (by decide)]
  refine fw_callCell (k := (i % 61)) hx hb hml hown hts hw hX hbl hbA hL (by omega) [] (va_cwS 2 hts gL_law_L_cell rfl rfl rfl (by decide +kernel) ⟨Nat.le_of_ble_eq_true rfl, Nat.le_of_ble_eq_true rfl⟩) hl.1 (Nat.le_of_ble_eq_true rfl) dL_law_105 ⟨by show n + 0 ≤ 663013; omega, by show nS + 0 ≤ 7112659; omega⟩ (fun r3 H locs hw => ?_)
  refine lv_sipush (v := 1163) hx hb dL_law_108 (by decide) ?_
  refine lv_iload hx hb dL_law_111 (lv_at hl 0 rfl) ?_
  refine lv_bipush (v := 61) hx hb dL_law_113 (by decide) ?_
  refine lv_idiv hx hb dL_law_115 (by decide) ?_
  refine lv_imul hx hb dL_law_116 ?_
  refine lv_iadd hx hb dL_law_117 ?_
  obtain ⟨v, ev⟩ : ∃ z, z = (r3 + ((1163 : Int32) * ((nI i) / 61))) := ⟨_, rfl⟩
  rw [← ev]
  refine lv_istore (lv' := [(5, .int v), (4, .int (nI i)), (3, .int 1), (0, .ref b), (1, .ref (α 0 0 0)), (2, .ref (β 0 0 0))]) hx hb dL_law_118 hl (by decide) rfl (fun ls hl => ?_)
  rcases ha : actF v S with _ | ⟨r1, S1⟩
  · refine lv_aload_n hx hb dL_law_120 rfl (lv_at hl 4 rfl) ?_
    refine lv_iload hx hb dL_law_121 (lv_at hl 0 rfl) ?_
    refine fw_callSi hx hb hml hown hts hE hw [.ref (α 0 0 0), .int v] [] (met_L hd (fun A => c_L_act l D A y sa f hfl α S v hN hI hR)) (va_cwS 2 hts gL_law_L_act rfl rfl rfl (by decide +kernel) ⟨Nat.le_of_ble_eq_true rfl, Nat.le_of_ble_eq_true rfl⟩) rfl hl.1 rfl (Nat.le_of_ble_eq_true rfl) dL_law_123 ⟨by show n + 0 + 8 ≤ 663013; omega, by show nS + 0 + 131 ≤ 7112659; omega⟩ (fun r4 f5 H locs hp6 hw => ?_)
    obtain ⟨hp6a, hp6b⟩ := hp6.none ha
    rw [hp6b] at hw
    rw [hp6a]
    refine lv_istore (lv' := [(6, .int (-900000001)), (5, .int v), (4, .int (nI i)), (3, .int 1), (0, .ref b), (1, .ref (α 0 0 0)), (2, .ref (β 0 0 0))]) hx hb dL_law_126 hl (by decide) rfl (fun ls hl => ?_)
    refine lv_iload hx hb dL_law_128 (lv_at hl 0 rfl) ?_
    refine lv_ldc (own := RL) (v := -900000001) hx hb hown (hts (.constant RL 44 (-900000001)) (by decide +kernel)) dL_law_130 ?_
    refine lv_icmp_eq (tgt := 146) hx hb dL_law_132 (by decide) (fun _ => ?_) (fun c_7 => absurd c_7 (by decide))
    refine W.widen (k := n + 16) (n := nS + 262) (by omega) (by omega) ?_
    have hl : lv_has ls 7 [(4, .int (nI i)), (5, .int v), (3, .int 1), (0, .ref b), (1, .ref x), (2, .ref z)] := by rw [← hα, ← hβ]; exact lv_sub hl [2, 1, 3, 4, 5, 6] rfl
    exact k v S _ H locs ls ⟨hJ, h3, α, β, f, g, hα, hβ, hR, hG, hd, rfl⟩ hw hl
  · have hJ1 := J_act hJ ha
    refine lv_aload_n hx hb dL_law_120 rfl (lv_at hl 4 rfl) ?_
    refine lv_iload hx hb dL_law_121 (lv_at hl 0 rfl) ?_
    refine fw_callSi hx hb hml hown hts hE hw [.ref (α 0 0 0), .int v] [] (met_L hd (fun A => c_L_act l D A y sa f hfl α S v hN hI hR)) (va_cwS 2 hts gL_law_L_act rfl rfl rfl (by decide +kernel) ⟨Nat.le_of_ble_eq_true rfl, Nat.le_of_ble_eq_true rfl⟩) rfl hl.1 rfl (Nat.le_of_ble_eq_true rfl) dL_law_123 ⟨by show n + 0 + 8 ≤ 663013; omega, by show nS + 0 + 131 ≤ 7112659; omega⟩ (fun r8 f9 H locs hp10 hw => ?_)
    obtain ⟨hp10a, f1, α2, hp10b, hd1, hα2, hR1⟩ := hp10.some ha
    rw [hp10b] at hw
    rw [hp10a]
    refine lv_istore (lv' := [(6, .int r1), (5, .int v), (4, .int (nI i)), (3, .int 1), (0, .ref b), (1, .ref (α 0 0 0)), (2, .ref (β 0 0 0))]) hx hb dL_law_126 hl (by decide) rfl (fun ls hl => ?_)
    refine lv_iload hx hb dL_law_128 (lv_at hl 0 rfl) ?_
    refine lv_ldc (own := RL) (v := -900000001) hx hb hown (hts (.constant RL 44 (-900000001)) (by decide +kernel)) dL_law_130 ?_
    refine lv_icmp_eq (tgt := 146) hx hb dL_law_132 (by decide) (fun c_11 => absurd c_11 (hJ1.2.1)) (fun _ => ?_)
    refine lv_aload_n hx hb dL_law_135 rfl (lv_at hl 6 rfl) ?_
    refine lv_iload hx hb dL_law_136 (lv_at hl 1 rfl) ?_
    refine fw_callSi hx hb hml hown hts hE hw [.ref (β 0 0 0), .int v] [] (met_R hd1 (fun A => c_L_act l D A y sa g hfl β S v hN hI hG)) (va_cwS 2 hts gL_law_L_act rfl rfl rfl (by decide +kernel) ⟨Nat.le_of_ble_eq_true rfl, Nat.le_of_ble_eq_true rfl⟩) rfl hl.1 rfl (Nat.le_of_ble_eq_true rfl) dL_law_138 ⟨by show n + 0 + 8 + 8 ≤ 663013; omega, by show nS + 0 + 131 + 131 ≤ 7112659; omega⟩ (fun r12 f13 H locs hp14 hw => ?_)
    obtain ⟨hp14a, g1, β2, hp14b, hd2, hβ2, hG1⟩ := hp14.some ha
    rw [hp14b] at hw
    rw [hp14a]
    refine lv_iload hx hb dL_law_141 (lv_at hl 0 rfl) ?_
    refine lv_icmp_ne (tgt := 187) hx hb dL_law_143 (by decide) (fun c_15 => absurd (rfl) c_15) (fun _ => ?_)
    refine W.widen (k := n + 16) (n := nS + 262) (by omega) (by omega) ?_
    have hl : lv_has ls 7 [(4, .int (nI i)), (5, .int v), (3, .int 1), (0, .ref b), (1, .ref x), (2, .ref z)] := by rw [← hα, ← hβ]; exact lv_sub hl [2, 1, 3, 4, 5, 6] rfl
    exact k v S1 _ H locs ls ⟨hJ1.1, hJ1.2.2.trans h3, α2, β2, f1, g1, hα2.trans hα, hβ2.trans hβ, hR1, hG1, hd2, rfl⟩ hw hl
set_option maxHeartbeats 4000000 in
set_option maxRecDepth 100000 in
theorem lw_body {p : Program} {e : Env} {s : State} {m : MethodId} {below : List Frame} {meth : Method} {c : Code} {l : Launch} {b L : Nat} {xs : Nat → Int32} {D : va_G} {y : Nat → ClassId} {sa : Nat → Nat} (hfl : l.stackTraces = false) (C0 : lw_At p s m meth c b L xs) (hL : L ≤ 260) (hE : fw_E D (fun q => s.heap.size ≤ q) y sa s) {x z : Nat} {i : Nat} (hi : i < 110) (n nS : Nat) (hn : n + 1265 ≤ 663013) (hs : nS + 8337 ≤ 7112659)
    (k : ∀ (S : pS) (h : fw_F) (H : Heap) (locs : List Loc) (ls : Array Slot), LwS y x z S h → fw_S D (fun q => s.heap.size ≤ q) s.heap h H locs → lv_has ls 7 [(4, .int (nI (i + 1))), (3, .int 1), (0, .ref b), (1, .ref x), (2, .ref z)] → W p l e room_1 s m #[Value.ref b] below meth c H locs (n + 1265) (nS + 8337) (lw_Z below #[Value.ref b] s) (F0 m 88 ls [])) :
    ∀ (S : pS) (h : fw_F) (H : Heap) (locs : List Loc) (ls : Array Slot), LwS y x z S h → fw_S D (fun q => s.heap.size ≤ q) s.heap h H locs → lv_has ls 7 [(4, .int (nI i)), (3, .int 1), (0, .ref b), (1, .ref x), (2, .ref z)] → W p l e room_1 s m #[Value.ref b] below meth c H locs n nS (lw_Z below #[Value.ref b] s) (F0 m 88 ls []) :=
  lw_88 hfl C0 hL hE hi n nS (by omega) (by omega) (fun v =>
    lw_146 hfl C0 hL hE hi (n + 16) (nS + 262) (by omega) (by omega) (lw_172 hfl C0 hL hE hi (n + 16 + 118) (nS + 262 + 708) (by omega) (by omega) (lw_189 hfl C0 hL hE hi (n + 16 + 118 + 875) (nS + 262 + 708 + 5250) (by omega) (by omega)
      (lw_216 hfl C0 hL hE hi (n + 16 + 118 + 875 + 209) (nS + 262 + 708 + 5250 + 1420) (by omega) (by omega) (fun S h H locs ls hQ hw hl => by
        obtain ⟨hx, hb, hr, hml, hown, hts0, hX, hbl, hlocks, hgv⟩ := id C0
        refine lv_iinc (v := nI (i + 1)) (lv' := [(4, .int (nI (i + 1))), (5, .int v), (3, .int 1), (0, .ref b), (1, .ref x), (2, .ref z)]) hx hb dL_law_265 hl (k := 0) rfl (nI_1 i) (by decide) rfl (fun ls hl => ?_)
        refine lv_goto (tgt := 88) hx hb dL_law_268 (by decide) ?_
        exact k S h H locs ls hQ hw (lv_sub hl [0, 2, 3, 4, 5] rfl))))))
set_option maxHeartbeats 4000000 in
set_option maxRecDepth 100000 in
theorem lw_end {p : Program} {e : Env} {s : State} {m : MethodId} {below : List Frame} {meth : Method} {c : Code} {l : Launch} {b L : Nat} {xs : Nat → Int32} {D : va_G} {y : Nat → ClassId} {sa : Nat → Nat} (hfl : l.stackTraces = false) (C0 : lw_At p s m meth c b L xs) (hL : L ≤ 260) (hE : fw_E D (fun q => s.heap.size ≤ q) y sa s) {x z : Nat} (n nS : Nat) (hn : n + 993 ≤ 663013) (hs : nS + 5958 ≤ 7112659) :
    ∀ (S : pS) (h : fw_F) (H : Heap) (locs : List Loc) (ls : Array Slot), LwS y x z S h → fw_S D (fun q => s.heap.size ≤ q) s.heap h H locs → lv_has ls 7 [(4, .int (nI 110)), (3, .int 1), (0, .ref b), (1, .ref x), (2, .ref z)] → W p l e room_1 s m #[Value.ref b] below meth c H locs n nS (lw_Z below #[Value.ref b] s) (F0 m 88 ls []) := by
  obtain ⟨hx, hb, hr, hml, hown, hts0, hX, hbl, hlocks, hgv⟩ := id C0
  have hown : s.vm.findClass RL = some m.cls := hown
  have hts : ∀ w ∈ wsL_law, w.before #[Value.ref b] s = true := fun w h => hts0 w (wsL_law_in w h)
  intro S h H locs ls hQ hw hl
  obtain ⟨hJ, h3, α, β, f, g, hα, hβ, hR, hG, hd, rfl⟩ := hQ
  have hI := hJ.1
  have hN := hJ.nS
  have hH : RH y S α (fw_or f g) := RH.l hR hd
  have hH2 : RH y S β (fw_or f g) := RH.r hG hd
  have hl : lv_has ls 7 [(4, .int (nI 110)), (3, .int 1), (0, .ref b), (1, .ref (α 0 0 0)), (2, .ref (β 0 0 0))] := by rw [hα, hβ]; exact hl
  refine lv_iload hx hb dL_law_88 (lv_at hl 0 rfl) ?_
  refine lv_bipush (v := 110) hx hb dL_law_90 (by decide) ?_
  refine lv_icmp_ge (tgt := 271) hx hb dL_law_92 (by decide) (fun _ => ?_) (fun c_1 => absurd (show (110 : Int32) ≤ nI 110 from by decide) c_1)
  refine lv_iload_n hx hb dL_law_271 rfl (lv_at hl 1 rfl) ?_
  refine lv_if_eq (tgt := 296) hx hb dL_law_272 (by decide) (fun c_2 => absurd c_2 (by decide)) (fun _ => ?_)
  refine lv_aload_n hx hb dL_law_275 rfl (lv_at hl 3 rfl) ?_
  refine lv_aload_n hx hb dL_law_276 rfl (lv_at hl 4 rfl) ?_
  refine lv_iconst (v := 0) hx hb dL_law_277 (by decide) ?_
  refine fw_callSi hx hb hml hown hts hE hw [.ref (α 0 0 0), .ref (β 0 0 0), .int 0] [] (c_L_areAlike l D _ y sa (fw_or f g) hfl α β S 0 (by omega) (by omega) hI hH hH2) (va_cwS 3 hts gL_law_L_areAlike rfl rfl rfl (by decide +kernel) ⟨Nat.le_of_ble_eq_true rfl, Nat.le_of_ble_eq_true rfl⟩) rfl hl.1 rfl (Nat.le_of_ble_eq_true rfl) dL_law_278 ⟨by show n + 118 ≤ 663013; omega, by show nS + 708 ≤ 7112659; omega⟩ (fun r3 f4 H locs hp5 hw => ?_)
  obtain ⟨hp5a, hp5b⟩ := hp5
  rw [hp5b] at hw
  rw [hp5a]
  refine lv_if_eq (tgt := 296) hx hb dL_law_281 (by decide) (fun c_6 => absurd c_6 (by decide)) (fun _ => ?_)
  refine lv_aload_n hx hb dL_law_284 rfl (lv_at hl 4 rfl) ?_
  refine lv_iconst (v := 0) hx hb dL_law_285 (by decide) ?_
  refine fw_callSi hx hb hml hown hts hE hw [.ref (β 0 0 0), .int 0] [] (c_L_isWorkerSo l D _ y sa (fw_or f g) hfl β S 0 (by omega) hI hH2 (w_ok hJ (by omega))) (va_cwS 2 hts gL_law_L_isWorkerSo rfl rfl rfl (by decide +kernel) ⟨Nat.le_of_ble_eq_true rfl, Nat.le_of_ble_eq_true rfl⟩) rfl hl.1 rfl (Nat.le_of_ble_eq_true rfl) dL_law_286 ⟨by show n + 118 + 875 ≤ 663013; omega, by show nS + 708 + 5250 ≤ 7112659; omega⟩ (fun r7 f8 H locs hp9 hw => ?_)
  obtain ⟨hp9a, hp9b⟩ := hp9
  rw [hp9b] at hw
  rw [hp9a]
  refine lv_if_eq (tgt := 296) hx hb dL_law_289 (by decide) (fun c_10 => absurd c_10 (by decide)) (fun _ => ?_)
  refine lv_iconst (v := 1) hx hb dL_law_292 (by decide) ?_
  refine lv_goto (tgt := 297) hx hb dL_law_293 (by decide) ?_
  refine va_forget (fun q hq => hw.2.2.2 q hq) ?_
  refine W.widen (k := 663013) (n := 7112659) (by omega) (by omega) ?_
  exact lw_ret hx hb hr hlocks dL_law_297
set_option maxHeartbeats 4000000 in
set_option maxRecDepth 100000 in
theorem lw_loop {p : Program} {e : Env} {s : State} {m : MethodId} {below : List Frame} {meth : Method} {c : Code} {l : Launch} {b L : Nat} {xs : Nat → Int32} {D : va_G} {y : Nat → ClassId} {sa : Nat → Nat} (hfl : l.stackTraces = false) (C0 : lw_At p s m meth c b L xs) (hL : L ≤ 260) (hE : fw_E D (fun q => s.heap.size ≤ q) y sa s) {x z : Nat} : ∀ (d i : Nat), i + d = 110 → ∀ (S : pS) (h : fw_F) (H : Heap) (locs : List Loc) (ls : Array Slot), LwS y x z S h → fw_S D (fun q => s.heap.size ≤ q) s.heap h H locs → lv_has ls 7 [(4, .int (nI i)), (3, .int 1), (0, .ref b), (1, .ref x), (2, .ref z)] → W p l e room_1 s m #[Value.ref b] below meth c H locs (1000 + 1265 * i) (10000 + 8337 * i) (lw_Z below #[Value.ref b] s) (F0 m 88 ls [])
  | 0, i, hd => by
    obtain rfl : i = 110 := by omega
    exact lw_end hfl C0 hL hE (1000 + 1265 * 110) (10000 + 8337 * 110) (by omega) (by omega)
  | d + 1, i, hd => by
    refine lw_body hfl C0 hL hE (by omega) (1000 + 1265 * i) (10000 + 8337 * i) (by omega) (by omega) (fun S h H locs ls hQ hw hl => ?_)
    refine W.widen (k := 1000 + 1265 * (i + 1)) (n := 10000 + 8337 * (i + 1)) (by omega) (by omega) ?_
    exact lw_loop hfl C0 hL hE d (i + 1) (by omega) S h H locs ls hQ hw hl
