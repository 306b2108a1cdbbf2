theorem fw_dis_r {f g h : fw_F} (h1 : fw_dis f g) (h2 : fw_dis f h) : fw_dis f (fw_or g h) := fun q hq => by
  rw [fw_or_n (h1 q hq)]
  exact h2 q hq
theorem fw_or_none {f g : fw_F} {q : Nat} (h : fw_or f g q = none) : f q = none := by
  cases hf : f q with
  | none => rfl
  | some e => rw [fw_or_l hf] at h; cases h
set_option maxHeartbeats 4000000 in
set_option maxRecDepth 100000 in
/-- case 15 of the law: week -/
theorem lw_c_week {p : Program} {e : Env} {s : State} {m : MethodId} {below : List Frame} {meth : Method} {c : Code} {l : Launch} (hfl : l.stackTraces = false) {b L : Nat} {xs : Nat → Int32} {D : va_G} {y : Nat → ClassId} {sa : Nat → Nat} (C0 : lw_At p s m meth c b L xs) (hL : L ≤ 3072) (hE : fw_E D (fun q => s.heap.size ≤ q) y sa s)
    {i o x0 : Nat} {β : Nat → Nat} (hi : i + 6 ≤ L) {f1 f2 : fw_F} (hN : lwI y o x0 β f1 f2) (hd : fw_dis f1 f2) {H : Heap} {locs : List Loc} {ls : Array Slot} (hw : fw_S D (fun q => s.heap.size ≤ q) s.heap (fw_or f1 f2) H locs) (hl : lv_has ls 7 [(4, .int (nI i)), (3, .ref o), (2, .ref (β 0)), (1, .ref x0), (0, .ref b)])
    {cells slots : Nat} (hcr : cells + 8 ≤ 601024 ∧ slots + 131 ≤ 7293033) {Q : State → Prop}
    (IH : ∀ (g1 g2 : fw_F) (H : Heap) (locs : List Loc) (ls : Array Slot), lwI y o x0 β g1 g2 → fw_dis g1 g2 → fw_S D (fun q => s.heap.size ≤ q) s.heap (fw_or g1 g2) H locs → lv_has ls 7 [(4, .int (nI i)), (3, .ref o), (2, .ref (β 0)), (1, .ref x0), (0, .ref b)] → W p l e room_1 s m #[Value.ref b] below meth c H locs (cells + 8) (slots + 131) Q (F0 m 1429 ls [])) :
    W p l e room_1 s m #[Value.ref b] below meth c H locs cells slots Q (F0 m 1168 ls []) := by
  obtain ⟨hx, hb, hr, hml, hown, hts0, hX, hbl, hlocks, hgv⟩ := id C0
  have hown : s.vm.findClass RL = some m.cls := hown
  have hts : ∀ w ∈ wsL_law, w.before #[Value.ref b] s = true := fun w h => hts0 w (wsL_law_in w h)
  have hbA : ¬ (fun q : Nat => s.heap.size ≤ q) b := Nat.not_le.mpr hbl
  obtain ⟨hc1, hc2⟩ := hcr
  obtain ⟨μ, κ, nw, no, nt, wk, α, fc, gl, hS, hRc, rfl, hRm, hdo, rfl⟩ := hN
  have hdw : fw_dis fc (fw_or (oC y o gl) f2) := fw_dis_r hdo (fun q hq => hd q (fun z => hq (fw_or_none z)))
  have hd2 : fw_dis (fw_or fc (oC y o gl)) f2 := hd
  refine lv_aload_n hx hb dL_law_1168 rfl (lv_at hl 3 rfl) ?_
  rw [fw_or_a] at hw
  refine fw_callViN hx hb hml hown hts hE hw hdw [] [] (c_X8_week l D (fw_A (fun q => s.heap.size ≤ q) (fw_or (oC y o gl) f2)) y sa fc α κ nw no nt wk hRc) (cwV 0 hts gL_law_X8_week rfl rfl rfl (by decide +kernel) ⟨Nat.le_of_ble_eq_true rfl, Nat.le_of_ble_eq_true rfl⟩) (ci := 8) rfl rfl hRc.x rfl hl.1 rfl (Nat.le_of_ble_eq_true rfl) dL_law_1169 ⟨by show cells + 0 ≤ 601024; omega, by show slots + 0 ≤ 7293033; omega⟩ (fun r f3 H locs hp hd3 hw => ?_)
  obtain ⟨hp1, hp2⟩ := hp
  rw [hp2, ← fw_or_a, fw_or_c hd2] at hw
  refine lv_aload_n hx hb dL_law_1172 rfl (lv_at hl 2 rfl) ?_
  refine fw_callViN hx hb hml hown hts hE hw hd2.symm [] [.int r] (c_X9_week l D (fw_A (fun q => s.heap.size ≤ q) (fw_or fc (oC y o gl))) y sa f2 β μ hRm) (cwV 0 hts gL_law_X9_week rfl rfl rfl (by decide +kernel) ⟨Nat.le_of_ble_eq_true rfl, Nat.le_of_ble_eq_true rfl⟩) (ci := 9) rfl rfl hRm.o rfl hl.1 rfl (Nat.le_of_ble_eq_true rfl) dL_law_1173 ⟨by show cells + 0 + 0 ≤ 601024; omega, by show slots + 0 + 0 ≤ 7293033; omega⟩ (fun r2 f4 H locs hq hd4 hw => ?_)
  obtain ⟨q1, q2⟩ := hq
  refine lv_icmp_eq (tgt := 1429) hx hb dL_law_1176 (by decide) (fun _ => ?_) (fun z => absurd (hp1.trans (hS.1.2.2.1.symm.trans q1.symm)) z)
  refine W.widen (k := cells + 8) (n := slots + 131) (by omega) (by omega) ?_
  exact IH (fw_or fc (oC y o gl)) f4 H locs ls ⟨up2 μ 0 0 0, κ, nw, no, nt, wk, α, fc, gl, hS.err 0, hRc, rfl, q2, hdo, rfl⟩ hd4.symm (by rw [fw_or_c hd4.symm]; exact hw) hl
