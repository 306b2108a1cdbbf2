/-! THE LAW'S BODY, stage by stage -/
/-- what stands between two stages -/
def LwS (y : Nat → ClassId) (x z : Nat) (S : pS) (h : fw_F) : Prop := J S ∧ S.1 = 3 ∧ two y S x z h
set_option maxHeartbeats 4000000 in
set_option maxRecDepth 100000 in
theorem lw_216 {p : Program} {e : Env} {s : State} {m : MethodId} {below : List Frame} {meth : Method} {c : Code} {l : Launch} {b L : Nat} {xs : Nat → Int32} {D : va_G} {y : Nat → ClassId} {sa : Nat → Nat} (hfl : l.stackTraces = false) (C0 : lw_At p s m meth c b L xs) (hL : L ≤ 260) (hE : fw_E D (fun q => s.heap.size ≤ q) y sa s) {x z : Nat} {i : Nat} {v : Int32} (hi : i < 110) (n nS : Nat) (hn : n + 47 ≤ 663013) (hs : nS + 697 ≤ 7112659)
    (k : ∀ (S : pS) (h : fw_F) (H : Heap) (locs : List Loc) (ls : Array Slot), LwS y x z S h → fw_S D (fun q => s.heap.size ≤ q) s.heap h H locs → lv_has ls 7 [(4, .int (nI i)), (5, .int v), (3, .int 1), (0, .ref b), (1, .ref x), (2, .ref z)] → W p l e room_1 s m #[Value.ref b] below meth c H locs (n + 47) (nS + 697) (lw_Z below #[Value.ref b] s) (F0 m 265 ls [])) :
    ∀ (S : pS) (h : fw_F) (H : Heap) (locs : List Loc) (ls : Array Slot), LwS y x z S h → fw_S D (fun q => s.heap.size ≤ q) s.heap h H locs → lv_has ls 7 [(4, .int (nI i)), (5, .int v), (3, .int 1), (0, .ref b), (1, .ref x), (2, .ref z)] → W p l e room_1 s m #[Value.ref b] below meth c H locs n nS (lw_Z below #[Value.ref b] s) (F0 m 216 ls []) := by
  obtain ⟨hx, hb, hr, hml, hown, hts0, hX, hbl, hlocks, hgv⟩ := id C0
  have hown : s.vm.findClass RL = some m.cls := hown
  have hts : ∀ w ∈ wsL_law, w.before #[Value.ref b] s = true := fun w h => hts0 w (wsL_law_in w h)
  intro S h H locs ls hQ hw hl
  obtain ⟨hJ, h3, α, β, f, g, hα, hβ, hR, hG, hd, rfl⟩ := hQ
  have hI := hJ.1
  have hN := hJ.nS
  have hH : RH y S α (fw_or f g) := RH.l hR hd
  have hH2 : RH y S β (fw_or f g) := RH.r hG hd
  have hl : lv_has ls 7 [(4, .int (nI i)), (5, .int v), (3, .int 1), (0, .ref b), (1, .ref (α 0 0 0)), (2, .ref (β 0 0 0))] := by rw [hα, hβ]; exact hl
  refine lv_iload hx hb dL_law_216 (lv_at hl 0 rfl) ?_
  refine lv_bipush (v := 13) hx hb dL_law_218 (by decide) ?_
  refine lv_irem hx hb dL_law_220 (by decide) ?_
  rw [show (((nI i) - (nI i) / 13 * 13) : Int32) = nI (i % 13) from nI_rem (by omega) (by decide) (by decide)]
  refine lv_bipush (v := 8) hx hb dL_law_221 (by decide) ?_
  refine lv_icmp_ne (tgt := 265) hx hb dL_law_223 (by decide) (fun c_1 => ?_) (fun c_1 => ?_)
  · refine W.widen (k := n + 47) (n := nS + 697) (by omega) (by omega) ?_
    have hl : lv_has ls 7 [(4, .int (nI i)), (5, .int v), (3, .int 1), (0, .ref b), (1, .ref x), (2, .ref z)] := by rw [← hα, ← hβ]; exact lv_sub hl [0, 1, 2, 3, 4, 5] rfl
    exact k S _ H locs ls ⟨hJ, h3, α, β, f, g, hα, hβ, hR, hG, hd, rfl⟩ hw hl
  · refine lv_iload_n hx hb dL_law_226 rfl (lv_at hl 2 rfl) ?_
    refine lv_if_eq (tgt := 263) hx hb dL_law_227 (by decide) (fun c_2 => absurd c_2 (by decide)) (fun _ => ?_)
    refine lv_aload_n hx hb dL_law_230 rfl (lv_at hl 4 rfl) ?_
    refine lv_aload_n hx hb dL_law_231 rfl (lv_at hl 5 rfl) ?_
    refine lv_iload hx hb dL_law_232 (lv_at hl 1 rfl) ?_
    refine lv_bipush (v := 6) hx hb dL_law_234 (by decide) ?_
    refine lv_ishr hx hb dL_law_236 ?_
    refine lv_iconst (v := 3) hx hb dL_law_237 (by decide) ?_
    refine fw_callSi hx hb hml hown hts hE hw [.int (v >>> (6 &&& 31)), .int 3] [.ref (β 0 0 0), .ref (α 0 0 0)] (c_L_low l D _ y sa _ (v >>> (6 &&& 31)) 3 (by decide)) (va_cwS 2 hts gL_law_L_low rfl rfl rfl (by decide +kernel) ⟨Nat.le_of_ble_eq_true rfl, Nat.le_of_ble_eq_true rfl⟩) rfl hl.1 rfl (Nat.le_of_ble_eq_true rfl) dL_law_238 ⟨by show n + 0 ≤ 663013; omega, by show nS + 0 ≤ 7112659; omega⟩ (fun r3 f4 H locs hp5 hw => ?_)
    obtain ⟨hp5a, hp5b⟩ := hp5
    rw [hp5b] at hw
    obtain ⟨q238, hq238, eq238⟩ := low_nI ((v >>> (6 &&& 31))) (n := 3) (by decide) (by decide)
    rw [hp5a, show (lowF (v >>> (6 &&& 31)) 3 : Int32) = nI q238 from eq238]
    refine lv_iconst (v := 1) hx hb dL_law_241 (by decide) ?_
    refine lv_iload hx hb dL_law_242 (lv_at hl 1 rfl) ?_
    refine lv_bipush (v := 8) hx hb dL_law_244 (by decide) ?_
    refine lv_ishr hx hb dL_law_246 ?_
    refine lv_ldc (own := RL) (v := 500000) hx hb hown (hts (.constant RL 124 (500000)) (by decide +kernel)) dL_law_247 ?_
    refine fw_callSi hx hb hml hown hts hE hw [.int (v >>> (8 &&& 31)), .int 500000] [.int 1, .int (nI q238), .ref (β 0 0 0), .ref (α 0 0 0)] (c_L_low l D _ y sa _ (v >>> (8 &&& 31)) 500000 (by decide)) (va_cwS 2 hts gL_law_L_low rfl rfl rfl (by decide +kernel) ⟨Nat.le_of_ble_eq_true rfl, Nat.le_of_ble_eq_true rfl⟩) rfl hl.1 rfl (Nat.le_of_ble_eq_true rfl) dL_law_249 ⟨by show n + 0 + 0 ≤ 663013; omega, by show nS + 0 + 0 ≤ 7112659; omega⟩ (fun r6 f7 H locs hp8 hw => ?_)
    obtain ⟨hp8a, hp8b⟩ := hp8
    rw [hp8b] at hw
    obtain ⟨q249, hq249, eq249⟩ := low_nI ((v >>> (8 &&& 31))) (n := 500000) (by decide) (by decide)
    rw [hp8a, show (lowF (v >>> (8 &&& 31)) 500000 : Int32) = nI q249 from eq249]
    refine lv_iadd hx hb dL_law_252 ?_
    have ham : inr ((1 : Int32) + (nI q249)) 1 10000000 := by rw [show ((1 : Int32) + (nI q249)) = nI (1 + q249) from nI_add 1 _]; exact ⟨nI_le (a := 1) (by omega) (by omega), nI_le (b := 10000000) (by omega) (by decide)⟩
    refine fw_callSi hx hb hml hown hts hE hw [.ref (α 0 0 0), .ref (β 0 0 0), .int (nI q238), .int ((1 : Int32) + (nI q249))] [] (c_L_isBouncedSo l D _ y sa f g hfl α β S q238 ((1 : Int32) + (nI q249)) (by omega) hd hN hI hR hG (b_ok hJ (by omega) ham hN)) (va_cwS 4 hts gL_law_L_isBouncedSo rfl rfl rfl (by decide +kernel) ⟨Nat.le_of_ble_eq_true rfl, Nat.le_of_ble_eq_true rfl⟩) rfl hl.1 rfl (Nat.le_of_ble_eq_true rfl) dL_law_253 ⟨by show n + 0 + 0 + 47 ≤ 663013; omega, by show nS + 0 + 0 + 697 ≤ 7112659; omega⟩ (fun r9 f10 H locs hp11 hw => ?_)
    obtain ⟨hp11a, S2, hst, ht⟩ := hp11
    rw [hp11a]
    refine lv_if_eq (tgt := 263) hx hb dL_law_256 (by decide) (fun c_12 => absurd c_12 (by decide)) (fun _ => ?_)
    refine lv_iconst (v := 1) hx hb dL_law_259 (by decide) ?_
    refine lv_goto (tgt := 264) hx hb dL_law_260 (by decide) ?_
    refine lv_istore_n (lv' := [(3, .int 1), (4, .int (nI i)), (5, .int v), (0, .ref b), (1, .ref (α 0 0 0)), (2, .ref (β 0 0 0))]) hx hb dL_law_264 rfl hl (by decide) rfl (fun ls hl => ?_)
    refine W.widen (k := n + 47) (n := nS + 697) (by omega) (by omega) ?_
    have hl : lv_has ls 7 [(4, .int (nI i)), (5, .int v), (3, .int 1), (0, .ref b), (1, .ref x), (2, .ref z)] := by rw [← hα, ← hβ]; exact lv_sub hl [1, 2, 0, 3, 4, 5] rfl
    exact k S2 f10 H locs ls ⟨(J_bstp hJ hst).1, (J_bstp hJ hst).2.trans h3, by rw [← hα, ← hβ]; exact ht⟩ hw hl
set_option maxHeartbeats 4000000 in
set_option maxRecDepth 100000 in
theorem lw_189 {p : Program} {e : Env} {s : State} {m : MethodId} {below : List Frame} {meth : Method} {c : Code} {l : Launch} {b L : Nat} {xs : Nat → Int32} {D : va_G} {y : Nat → ClassId} {sa : Nat → Nat} (hfl : l.stackTraces = false) (C0 : lw_At p s m meth c b L xs) (hL : L ≤ 260) (hE : fw_E D (fun q => s.heap.size ≤ q) y sa s) {x z : Nat} {i : Nat} {v : Int32} (hi : i < 110) (n nS : Nat) (hn : n + 209 ≤ 663013) (hs : nS + 1420 ≤ 7112659)
    (k : ∀ (S : pS) (h : fw_F) (H : Heap) (locs : List Loc) (ls : Array Slot), LwS y x z S h → fw_S D (fun q => s.heap.size ≤ q) s.heap h H locs → lv_has ls 7 [(4, .int (nI i)), (5, .int v), (3, .int 1), (0, .ref b), (1, .ref x), (2, .ref z)] → W p l e room_1 s m #[Value.ref b] below meth c H locs (n + 209) (nS + 1420) (lw_Z below #[Value.ref b] s) (F0 m 216 ls [])) :
    ∀ (S : pS) (h : fw_F) (H : Heap) (locs : List Loc) (ls : Array Slot), LwS y x z S h → fw_S D (fun q => s.heap.size ≤ q) s.heap h H locs → lv_has ls 7 [(4, .int (nI i)), (5, .int v), (3, .int 1), (0, .ref b), (1, .ref x), (2, .ref z)] → W p l e room_1 s m #[Value.ref b] below meth c H locs n nS (lw_Z below #[Value.ref b] s) (F0 m 189 ls []) := by
  obtain ⟨hx, hb, hr, hml, hown, hts0, hX, hbl, hlocks, hgv⟩ := id C0
  have hown : s.vm.findClass RL = some m.cls := hown
  have hts : ∀ w ∈ wsL_law, w.before #[Value.ref b] s = true := fun w h => hts0 w (wsL_law_in w h)
  intro S h H locs ls hQ hw hl
  obtain ⟨hJ, h3, α, β, f, g, hα, hβ, hR, hG, hd, rfl⟩ := hQ
  have hI := hJ.1
  have hN := hJ.nS
  have hH : RH y S α (fw_or f g) := RH.l hR hd
  have hH2 : RH y S β (fw_or f g) := RH.r hG hd
  have hl : lv_has ls 7 [(4, .int (nI i)), (5, .int v), (3, .int 1), (0, .ref b), (1, .ref (α 0 0 0)), (2, .ref (β 0 0 0))] := by rw [hα, hβ]; exact hl
  refine lv_iload hx hb dL_law_189 (lv_at hl 0 rfl) ?_
  refine lv_bipush (v := 9) hx hb dL_law_191 (by decide) ?_
  refine lv_irem hx hb dL_law_193 (by decide) ?_
  rw [show (((nI i) - (nI i) / 9 * 9) : Int32) = nI (i % 9) from nI_rem (by omega) (by decide) (by decide)]
  refine lv_iconst (v := 5) hx hb dL_law_194 (by decide) ?_
  refine lv_icmp_ne (tgt := 216) hx hb dL_law_195 (by decide) (fun c_1 => ?_) (fun c_1 => ?_)
  · refine W.widen (k := n + 209) (n := nS + 1420) (by omega) (by omega) ?_
    have hl : lv_has ls 7 [(4, .int (nI i)), (5, .int v), (3, .int 1), (0, .ref b), (1, .ref x), (2, .ref z)] := by rw [← hα, ← hβ]; exact lv_sub hl [0, 1, 2, 3, 4, 5] rfl
    exact k S _ H locs ls ⟨hJ, h3, α, β, f, g, hα, hβ, hR, hG, hd, rfl⟩ hw hl
  · refine lv_iload_n hx hb dL_law_198 rfl (lv_at hl 2 rfl) ?_
    refine lv_if_eq (tgt := 214) hx hb dL_law_199 (by decide) (fun c_2 => absurd c_2 (by decide)) (fun _ => ?_)
    refine lv_aload_n hx hb dL_law_202 rfl (lv_at hl 4 rfl) ?_
    refine lv_aload_n hx hb dL_law_203 rfl (lv_at hl 5 rfl) ?_
    refine fw_callSi hx hb hml hown hts hE hw [.ref (α 0 0 0), .ref (β 0 0 0)] [] (c_L_isClosedSo l D _ y sa f g hfl α β S hd hN hI hR hG (c_ok hJ)) (va_cwS 2 hts gL_law_L_isClosedSo rfl rfl rfl (by decide +kernel) ⟨Nat.le_of_ble_eq_true rfl, Nat.le_of_ble_eq_true rfl⟩) rfl hl.1 rfl (Nat.le_of_ble_eq_true rfl) dL_law_204 ⟨by show n + 209 ≤ 663013; omega, by show nS + 1420 ≤ 7112659; omega⟩ (fun r3 f4 H locs hp5 hw => ?_)
    obtain ⟨hp5a, S2, hst, ht⟩ := hp5
    rw [hp5a]
    refine lv_if_eq (tgt := 214) hx hb dL_law_207 (by decide) (fun c_6 => absurd c_6 (by decide)) (fun _ => ?_)
    refine lv_iconst (v := 1) hx hb dL_law_210 (by decide) ?_
    refine lv_goto (tgt := 215) hx hb dL_law_211 (by decide) ?_
    refine lv_istore_n (lv' := [(3, .int 1), (4, .int (nI i)), (5, .int v), (0, .ref b), (1, .ref (α 0 0 0)), (2, .ref (β 0 0 0))]) hx hb dL_law_215 rfl hl (by decide) rfl (fun ls hl => ?_)
    refine W.widen (k := n + 209) (n := nS + 1420) (by omega) (by omega) ?_
    have hl : lv_has ls 7 [(4, .int (nI i)), (5, .int v), (3, .int 1), (0, .ref b), (1, .ref x), (2, .ref z)] := by rw [← hα, ← hβ]; exact lv_sub hl [1, 2, 0, 3, 4, 5] rfl
    exact k S2 f4 H locs ls ⟨(J_stp hJ hst).1, (J_stp hJ hst).2.trans h3, by rw [← hα, ← hβ]; exact ht⟩ hw hl
set_option maxHeartbeats 4000000 in
set_option maxRecDepth 100000 in
theorem lw_172 {p : Program} {e : Env} {s : State} {m : MethodId} {below : List Frame} {meth : Method} {c : Code} {l : Launch} {b L : Nat} {xs : Nat → Int32} {D : va_G} {y : Nat → ClassId} {sa : Nat → Nat} (hfl : l.stackTraces = false) (C0 : lw_At p s m meth c b L xs) (hL : L ≤ 260) (hE : fw_E D (fun q => s.heap.size ≤ q) y sa s) {x z : Nat} {i : Nat} {v : Int32} (hi : i < 110) (n nS : Nat) (hn : n + 875 ≤ 663013) (hs : nS + 5250 ≤ 7112659)
    (k : ∀ (S : pS) (h : fw_F) (H : Heap) (locs : List Loc) (ls : Array Slot), LwS y x z S h → fw_S D (fun q => s.heap.size ≤ q) s.heap h H locs → lv_has ls 7 [(4, .int (nI i)), (5, .int v), (3, .int 1), (0, .ref b), (1, .ref x), (2, .ref z)] → W p l e room_1 s m #[Value.ref b] below meth c H locs (n + 875) (nS + 5250) (lw_Z below #[Value.ref b] s) (F0 m 189 ls [])) :
    ∀ (S : pS) (h : fw_F) (H : Heap) (locs : List Loc) (ls : Array Slot), LwS y x z S h → fw_S D (fun q => s.heap.size ≤ q) s.heap h H locs → lv_has ls 7 [(4, .int (nI i)), (5, .int v), (3, .int 1), (0, .ref b), (1, .ref x), (2, .ref z)] → W p l e room_1 s m #[Value.ref b] below meth c H locs n nS (lw_Z below #[Value.ref b] s) (F0 m 172 ls []) := by
  obtain ⟨hx, hb, hr, hml, hown, hts0, hX, hbl, hlocks, hgv⟩ := id C0
  have hown : s.vm.findClass RL = some m.cls := hown
  have hts : ∀ w ∈ wsL_law, w.before #[Value.ref b] s = true := fun w h => hts0 w (wsL_law_in w h)
  intro S h H locs ls hQ hw hl
  obtain ⟨hJ, h3, α, β, f, g, hα, hβ, hR, hG, hd, rfl⟩ := hQ
  have hI := hJ.1
  have hN := hJ.nS
  have hH : RH y S α (fw_or f g) := RH.l hR hd
  have hH2 : RH y S β (fw_or f g) := RH.r hG hd
  have hl : lv_has ls 7 [(4, .int (nI i)), (5, .int v), (3, .int 1), (0, .ref b), (1, .ref (α 0 0 0)), (2, .ref (β 0 0 0))] := by rw [hα, hβ]; exact hl
  refine lv_aload_n hx hb dL_law_172 rfl (lv_at hl 4 rfl) ?_
  refine lv_iload hx hb dL_law_173 (lv_at hl 0 rfl) ?_
  refine lv_iconst (v := 3) hx hb dL_law_175 (by decide) ?_
  refine lv_irem hx hb dL_law_176 (by decide) ?_
  rw [show (((nI i) - (nI i) / 3 * 3) : Int32) = nI (i % 3) from nI_rem (by omega) (by decide) (by decide)]
  refine fw_callSi hx hb hml hown hts hE hw [.ref (α 0 0 0), .int (nI (i % 3))] [] (c_L_isWorkerSo l D _ y sa (fw_or f g) hfl α S ((i % 3)) (by omega) hI hH (w_ok hJ (by omega))) (va_cwS 2 hts gL_law_L_isWorkerSo rfl rfl rfl (by decide +kernel) ⟨Nat.le_of_ble_eq_true rfl, Nat.le_of_ble_eq_true rfl⟩) rfl hl.1 rfl (Nat.le_of_ble_eq_true rfl) dL_law_177 ⟨by show n + 875 ≤ 663013; omega, by show nS + 5250 ≤ 7112659; omega⟩ (fun r1 f2 H locs hp3 hw => ?_)
  obtain ⟨hp3a, hp3b⟩ := hp3
  rw [hp3b] at hw
  rw [hp3a]
  refine lv_if_eq (tgt := 187) hx hb dL_law_180 (by decide) (fun c_4 => absurd c_4 (by decide)) (fun _ => ?_)
  refine lv_iconst (v := 1) hx hb dL_law_183 (by decide) ?_
  refine lv_goto (tgt := 188) hx hb dL_law_184 (by decide) ?_
  refine lv_istore_n (lv' := [(3, .int 1), (4, .int (nI i)), (5, .int v), (0, .ref b), (1, .ref (α 0 0 0)), (2, .ref (β 0 0 0))]) hx hb dL_law_188 rfl hl (by decide) rfl (fun ls hl => ?_)
  refine W.widen (k := n + 875) (n := nS + 5250) (by omega) (by omega) ?_
  have hl : lv_has ls 7 [(4, .int (nI i)), (5, .int v), (3, .int 1), (0, .ref b), (1, .ref x), (2, .ref z)] := by rw [← hα, ← hβ]; exact lv_sub hl [1, 2, 0, 3, 4, 5] rfl
  exact k S _ H locs ls ⟨hJ, h3, α, β, f, g, hα, hβ, hR, hG, hd, rfl⟩ hw hl
set_option maxHeartbeats 4000000 in
set_option maxRecDepth 100000 in
theorem lw_146 {p : Program} {e : Env} {s : State} {m : MethodId} {below : List Frame} {meth : Method} {c : Code} {l : Launch} {b L : Nat} {xs : Nat → Int32} {D : va_G} {y : Nat → ClassId} {sa : Nat → Nat} (hfl : l.stackTraces = false) (C0 : lw_At p s m meth c b L xs) (hL : L ≤ 260) (hE : fw_E D (fun q => s.heap.size ≤ q) y sa s) {x z : Nat} {i : Nat} {v : Int32} (hi : i < 110) (n nS : Nat) (hn : n + 118 ≤ 663013) (hs : nS + 708 ≤ 7112659)
    (k : ∀ (S : pS) (h : fw_F) (H : Heap) (locs : List Loc) (ls : Array Slot), LwS y x z S h → fw_S D (fun q => s.heap.size ≤ q) s.heap h H locs → lv_has ls 7 [(4, .int (nI i)), (5, .int v), (3, .int 1), (0, .ref b), (1, .ref x), (2, .ref z)] → W p l e room_1 s m #[Value.ref b] below meth c H locs (n + 118) (nS + 708) (lw_Z below #[Value.ref b] s) (F0 m 172 ls [])) :
    ∀ (S : pS) (h : fw_F) (H : Heap) (locs : List Loc) (ls : Array Slot), LwS y x z S h → fw_S D (fun q => s.heap.size ≤ q) s.heap h H locs → lv_has ls 7 [(4, .int (nI i)), (5, .int v), (3, .int 1), (0, .ref b), (1, .ref x), (2, .ref z)] → W p l e room_1 s m #[Value.ref b] below meth c H locs n nS (lw_Z below #[Value.ref b] s) (F0 m 146 ls []) := by
  obtain ⟨hx, hb, hr, hml, hown, hts0, hX, hbl, hlocks, hgv⟩ := id C0
  have hown : s.vm.findClass RL = some m.cls := hown
  have hts : ∀ w ∈ wsL_law, w.before #[Value.ref b] s = true := fun w h => hts0 w (wsL_law_in w h)
  intro S h H locs ls hQ hw hl
  obtain ⟨hJ, h3, α, β, f, g, hα, hβ, hR, hG, hd, rfl⟩ := hQ
  have hI := hJ.1
  have hN := hJ.nS
  have hH : RH y S α (fw_or f g) := RH.l hR hd
  have hH2 : RH y S β (fw_or f g) := RH.r hG hd
  have hl : lv_has ls 7 [(4, .int (nI i)), (5, .int v), (3, .int 1), (0, .ref b), (1, .ref (α 0 0 0)), (2, .ref (β 0 0 0))] := by rw [hα, hβ]; exact hl
  refine lv_iload hx hb dL_law_146 (lv_at hl 0 rfl) ?_
  refine lv_bipush (v := 6) hx hb dL_law_148 (by decide) ?_
  refine lv_irem hx hb dL_law_150 (by decide) ?_
  rw [show (((nI i) - (nI i) / 6 * 6) : Int32) = nI (i % 6) from nI_rem (by omega) (by decide) (by decide)]
  refine lv_iconst (v := 3) hx hb dL_law_151 (by decide) ?_
  refine lv_icmp_ne (tgt := 172) hx hb dL_law_152 (by decide) (fun c_1 => ?_) (fun c_1 => ?_)
  · refine W.widen (k := n + 118) (n := nS + 708) (by omega) (by omega) ?_
    have hl : lv_has ls 7 [(4, .int (nI i)), (5, .int v), (3, .int 1), (0, .ref b), (1, .ref x), (2, .ref z)] := by rw [← hα, ← hβ]; exact lv_sub hl [0, 1, 2, 3, 4, 5] rfl
    exact k S _ H locs ls ⟨hJ, h3, α, β, f, g, hα, hβ, hR, hG, hd, rfl⟩ hw hl
  · refine lv_aload_n hx hb dL_law_155 rfl (lv_at hl 4 rfl) ?_
    refine lv_aload_n hx hb dL_law_156 rfl (lv_at hl 5 rfl) ?_
    refine lv_iload hx hb dL_law_157 (lv_at hl 1 rfl) ?_
    refine lv_iconst (v := 5) hx hb dL_law_159 (by decide) ?_
    refine lv_ishr hx hb dL_law_160 ?_
    refine lv_bipush (v := 31) hx hb dL_law_161 (by decide) ?_
    refine fw_callSi hx hb hml hown hts hE hw [.int (v >>> (5 &&& 31)), .int 31] [.ref (β 0 0 0), .ref (α 0 0 0)] (c_L_low l D _ y sa _ (v >>> (5 &&& 31)) 31 (by decide)) (va_cwS 2 hts gL_law_L_low rfl rfl rfl (by decide +kernel) ⟨Nat.le_of_ble_eq_true rfl, Nat.le_of_ble_eq_true rfl⟩) rfl hl.1 rfl (Nat.le_of_ble_eq_true rfl) dL_law_163 ⟨by show n + 0 ≤ 663013; omega, by show nS + 0 ≤ 7112659; omega⟩ (fun r2 f3 H locs hp4 hw => ?_)
    obtain ⟨hp4a, hp4b⟩ := hp4
    rw [hp4b] at hw
    obtain ⟨q163, hq163, eq163⟩ := low_nI ((v >>> (5 &&& 31))) (n := 31) (by decide) (by decide)
    rw [hp4a, show (lowF (v >>> (5 &&& 31)) 31 : Int32) = nI q163 from eq163]
    refine fw_callSi hx hb hml hown hts hE hw [.ref (α 0 0 0), .ref (β 0 0 0), .int (nI q163)] [] (c_L_areAlike l D _ y sa (fw_or f g) hfl α β S q163 (by omega) (by omega) hI hH hH2) (va_cwS 3 hts gL_law_L_areAlike rfl rfl rfl (by decide +kernel) ⟨Nat.le_of_ble_eq_true rfl, Nat.le_of_ble_eq_true rfl⟩) rfl hl.1 rfl (Nat.le_of_ble_eq_true rfl) dL_law_166 ⟨by show n + 0 + 118 ≤ 663013; omega, by show nS + 0 + 708 ≤ 7112659; omega⟩ (fun r5 f6 H locs hp7 hw => ?_)
    obtain ⟨hp7a, hp7b⟩ := hp7
    rw [hp7b] at hw
    rw [hp7a]
    refine lv_if_eq (tgt := 187) hx hb dL_law_169 (by decide) (fun c_8 => absurd c_8 (by decide)) (fun _ => ?_)
    refine W.widen (k := n + 118) (n := nS + 708) (by omega) (by omega) ?_
    have hl : lv_has ls 7 [(4, .int (nI i)), (5, .int v), (3, .int 1), (0, .ref b), (1, .ref x), (2, .ref z)] := by rw [← hα, ← hβ]; exact lv_sub hl [0, 1, 2, 3, 4, 5] rfl
    exact k S _ H locs ls ⟨hJ, h3, α, β, f, g, hα, hβ, hR, hG, hd, rfl⟩ hw hl
