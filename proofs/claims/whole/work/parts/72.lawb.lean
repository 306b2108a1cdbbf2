set_option maxHeartbeats 4000000 in
set_option maxRecDepth 100000 in
/-- case 4 of the law: correct -/
theorem lw_c_correct {p : Program} {e : Env} {s : State} {m : MethodId} {below : List Frame} {meth : Method} {c : Code} {l : Launch} (hfl : l.stackTraces = false) {b L : Nat} {xs : Nat → Int32} {D : va_G} {y : Nat → ClassId} {sa : Nat → Nat} (C0 : lw_At p s m meth c b L xs) (hL : L ≤ 3072) (hE : fw_E D (fun q => s.heap.size ≤ q) y sa s)
    {i o x0 : Nat} {β : Nat → Nat} (hi : i + 6 ≤ L) {f1 f2 : fw_F} (hN : lwI y o x0 β f1 f2) (hd : fw_dis f1 f2) {H : Heap} {locs : List Loc} {ls : Array Slot} (hw : fw_S D (fun q => s.heap.size ≤ q) s.heap (fw_or f1 f2) H locs) (hl : lv_has ls 7 [(4, .int (nI i)), (3, .ref o), (2, .ref (β 0)), (1, .ref x0), (0, .ref b)])
    {cells slots : Nat} (hcr : cells + 8 ≤ 601024 ∧ slots + 131 ≤ 7293033) {Q : State → Prop}
    (IH : ∀ (g1 g2 : fw_F) (H : Heap) (locs : List Loc) (ls : Array Slot), lwI y o x0 β g1 g2 → fw_dis g1 g2 → fw_S D (fun q => s.heap.size ≤ q) s.heap (fw_or g1 g2) H locs → lv_has ls 7 [(4, .int (nI i)), (3, .ref o), (2, .ref (β 0)), (1, .ref x0), (0, .ref b)] → W p l e room_1 s m #[Value.ref b] below meth c H locs (cells + 8) (slots + 131) Q (F0 m 1429 ls [])) :
    W p l e room_1 s m #[Value.ref b] below meth c H locs cells slots Q (F0 m 468 ls []) := by
  obtain ⟨hx, hb, hr, hml, hown, hts0, hX, hbl, hlocks, hgv⟩ := id C0
  have hown : s.vm.findClass RL = some m.cls := hown
  have hts : ∀ w ∈ wsL_law, w.before #[Value.ref b] s = true := fun w h => hts0 w (wsL_law_in w h)
  have hbA : ¬ (fun q : Nat => s.heap.size ≤ q) b := Nat.not_le.mpr hbl
  obtain ⟨hc1, hc2⟩ := hcr
  obtain ⟨μ, κ, nw, no, nt, wk, α, fc, gl, hS, hRc, rfl, hRm, hdo, rfl⟩ := hN
  refine lv_aload_n hx hb dL_law_468 rfl (lv_at hl 3 rfl) ?_
  refine lv_aload_n hx hb dL_law_469 rfl (lv_at hl 4 rfl) ?_
  refine lv_iload hx hb dL_law_470 (lv_at hl 0 rfl) ?_
  refine lv_iconst (v := 1) hx hb dL_law_472 (by decide) ?_
  refine lv_iadd hx hb dL_law_473 ?_
  refine va_sld hx hb hX hbl hbA hw.2 (vpi (j := 1) (by omega) hL) dL_law_474 ?_
  refine lv_aload_n hx hb dL_law_475 rfl (lv_at hl 4 rfl) ?_
  refine lv_iload hx hb dL_law_476 (lv_at hl 0 rfl) ?_
  refine lv_iconst (v := 2) hx hb dL_law_478 (by decide) ?_
  refine lv_iadd hx hb dL_law_479 ?_
  refine va_sld hx hb hX hbl hbA hw.2 (vpi (j := 2) (by omega) hL) dL_law_480 ?_
  refine lv_aload_n hx hb dL_law_481 rfl (lv_at hl 4 rfl) ?_
  refine lv_iload hx hb dL_law_482 (lv_at hl 0 rfl) ?_
  refine lv_iconst (v := 3) hx hb dL_law_484 (by decide) ?_
  refine lv_iadd hx hb dL_law_485 ?_
  refine va_sld hx hb hX hbl hbA hw.2 (vpi (j := 3) (by omega) hL) dL_law_486 ?_
  refine lv_aload_n hx hb dL_law_487 rfl (lv_at hl 4 rfl) ?_
  refine lv_iload hx hb dL_law_488 (lv_at hl 0 rfl) ?_
  refine lv_iconst (v := 4) hx hb dL_law_490 (by decide) ?_
  refine lv_iadd hx hb dL_law_491 ?_
  refine va_sld hx hb hX hbl hbA hw.2 (vpi (j := 4) (by omega) hL) dL_law_492 ?_
  refine lv_aload_n hx hb dL_law_493 rfl (lv_at hl 1 rfl) ?_
  refine fw_callSWiN (f := fw_or fc (oC y o gl)) (g := f2) hx hb hml hown hts hE hw hd [.ref (α 0 0 0), .int (xs (nI i + 1).toNatClampNeg), .int (xs (nI i + 2).toNatClampNeg), .int (xs (nI i + 3).toNatClampNeg), .int (xs (nI i + 4).toNatClampNeg), .ref o] [] (c_L_correct l D (fw_A (fun q => s.heap.size ≤ q) f2) y sa fc hfl α κ nw no nt wk (xs (nI i + 1).toNatClampNeg) (xs (nI i + 2).toNatClampNeg) (xs (nI i + 3).toNatClampNeg) (xs (nI i + 4).toNatClampNeg) hS.2.1 hRc o gl hdo) (vx_cwSW 6 hts gL_law_L_correct rfl rfl rfl (by decide +kernel) ⟨Nat.le_of_ble_eq_true rfl, Nat.le_of_ble_eq_true rfl⟩) rfl hl.1 rfl (Nat.le_of_ble_eq_true rfl) dL_law_494 ⟨by show cells + 3 ≤ 601024; omega, by show slots + 18 ≤ 7293033; omega⟩ (fun k f3 H locs hp hd3 hw => ?_)
  refine lv_istore (lv' := [(5, .int k), (4, .int (nI i)), (3, .ref o), (2, .ref (β 0)), (1, .ref (α 0 0 0)), (0, .ref b)]) hx hb dL_law_497 hl (by decide) rfl (fun ls hl => ?_)
  rw [fw_or_c hd3] at hw
  refine lv_aload_n hx hb dL_law_499 rfl (lv_at hl 3 rfl) ?_
  refine lv_aload_n hx hb dL_law_500 rfl (lv_at hl 5 rfl) ?_
  refine lv_iload hx hb dL_law_501 (lv_at hl 1 rfl) ?_
  refine lv_iconst (v := 1) hx hb dL_law_503 (by decide) ?_
  refine lv_iadd hx hb dL_law_504 ?_
  refine va_sld hx hb hX hbl hbA hw.2 (vpi (j := 1) (by omega) hL) dL_law_505 ?_
  refine lv_aload_n hx hb dL_law_506 rfl (lv_at hl 5 rfl) ?_
  refine lv_iload hx hb dL_law_507 (lv_at hl 1 rfl) ?_
  refine lv_iconst (v := 2) hx hb dL_law_509 (by decide) ?_
  refine lv_iadd hx hb dL_law_510 ?_
  refine va_sld hx hb hX hbl hbA hw.2 (vpi (j := 2) (by omega) hL) dL_law_511 ?_
  refine lv_aload_n hx hb dL_law_512 rfl (lv_at hl 5 rfl) ?_
  refine lv_iload hx hb dL_law_513 (lv_at hl 1 rfl) ?_
  refine lv_iconst (v := 3) hx hb dL_law_515 (by decide) ?_
  refine lv_iadd hx hb dL_law_516 ?_
  refine va_sld hx hb hX hbl hbA hw.2 (vpi (j := 3) (by omega) hL) dL_law_517 ?_
  refine lv_aload_n hx hb dL_law_518 rfl (lv_at hl 5 rfl) ?_
  refine lv_iload hx hb dL_law_519 (lv_at hl 1 rfl) ?_
  refine lv_iconst (v := 4) hx hb dL_law_521 (by decide) ?_
  refine lv_iadd hx hb dL_law_522 ?_
  refine va_sld hx hb hX hbl hbA hw.2 (vpi (j := 4) (by omega) hL) dL_law_523 ?_
  refine fw_callViN hx hb hml hown hts hE hw hd3.symm [.int (xs (nI i + 1).toNatClampNeg), .int (xs (nI i + 2).toNatClampNeg), .int (xs (nI i + 3).toNatClampNeg), .int (xs (nI i + 4).toNatClampNeg)] [] (c_X9_correct l D (fw_A (fun q => s.heap.size ≤ q) f3) y sa f2 β μ (xs (nI i + 1).toNatClampNeg) (xs (nI i + 2).toNatClampNeg) (xs (nI i + 3).toNatClampNeg) (xs (nI i + 4).toNatClampNeg) nw wk no nt hS.1 hRm) (cwV 4 hts gL_law_X9_correct rfl rfl rfl (by decide +kernel) ⟨Nat.le_of_ble_eq_true rfl, Nat.le_of_ble_eq_true rfl⟩) (ci := 9) rfl rfl hRm.o rfl hl.1 rfl (Nat.le_of_ble_eq_true rfl) dL_law_524 ⟨by show cells + 3 + 0 ≤ 601024; omega, by show slots + 18 + 0 ≤ 7293033; omega⟩ (fun bv f4 H locs hp2 hd4 hw => ?_)
  refine W.widen (k := cells + 8) (n := slots + 131) (by omega) (by omega) ?_
  exact lw_tail (off := 872) C0 hE (mt_correct hS hRc hdo hp hp2) hd4 hw hl ⟨hc1, hc2⟩ dL_law_527 dL_law_529 dL_law_530 dL_law_533 dL_law_535 dL_law_540 dL_law_542 dL_law_545 dL_law_546 dL_law_547 dL_law_548 dL_law_550 dL_law_551 dL_law_552 dL_law_557 rfl IH
set_option maxHeartbeats 4000000 in
set_option maxRecDepth 100000 in
/-- case 5 of the law: acknowledged -/
theorem lw_c_acknowledged {p : Program} {e : Env} {s : State} {m : MethodId} {below : List Frame} {meth : Method} {c : Code} {l : Launch} (hfl : l.stackTraces = false) {b L : Nat} {xs : Nat → Int32} {D : va_G} {y : Nat → ClassId} {sa : Nat → Nat} (C0 : lw_At p s m meth c b L xs) (hL : L ≤ 3072) (hE : fw_E D (fun q => s.heap.size ≤ q) y sa s)
    {i o x0 : Nat} {β : Nat → Nat} (hi : i + 6 ≤ L) {f1 f2 : fw_F} (hN : lwI y o x0 β f1 f2) (hd : fw_dis f1 f2) {H : Heap} {locs : List Loc} {ls : Array Slot} (hw : fw_S D (fun q => s.heap.size ≤ q) s.heap (fw_or f1 f2) H locs) (hl : lv_has ls 7 [(4, .int (nI i)), (3, .ref o), (2, .ref (β 0)), (1, .ref x0), (0, .ref b)])
    {cells slots : Nat} (hcr : cells + 8 ≤ 601024 ∧ slots + 131 ≤ 7293033) {Q : State → Prop}
    (IH : ∀ (g1 g2 : fw_F) (H : Heap) (locs : List Loc) (ls : Array Slot), lwI y o x0 β g1 g2 → fw_dis g1 g2 → fw_S D (fun q => s.heap.size ≤ q) s.heap (fw_or g1 g2) H locs → lv_has ls 7 [(4, .int (nI i)), (3, .ref o), (2, .ref (β 0)), (1, .ref x0), (0, .ref b)] → W p l e room_1 s m #[Value.ref b] below meth c H locs (cells + 8) (slots + 131) Q (F0 m 1429 ls [])) :
    W p l e room_1 s m #[Value.ref b] below meth c H locs cells slots Q (F0 m 560 ls []) := by
  obtain ⟨hx, hb, hr, hml, hown, hts0, hX, hbl, hlocks, hgv⟩ := id C0
  have hown : s.vm.findClass RL = some m.cls := hown
  have hts : ∀ w ∈ wsL_law, w.before #[Value.ref b] s = true := fun w h => hts0 w (wsL_law_in w h)
  have hbA : ¬ (fun q : Nat => s.heap.size ≤ q) b := Nat.not_le.mpr hbl
  obtain ⟨hc1, hc2⟩ := hcr
  obtain ⟨μ, κ, nw, no, nt, wk, α, fc, gl, hS, hRc, rfl, hRm, hdo, rfl⟩ := hN
  refine lv_aload_n hx hb dL_law_560 rfl (lv_at hl 3 rfl) ?_
  refine lv_aload_n hx hb dL_law_561 rfl (lv_at hl 4 rfl) ?_
  refine lv_iload hx hb dL_law_562 (lv_at hl 0 rfl) ?_
  refine lv_iconst (v := 1) hx hb dL_law_564 (by decide) ?_
  refine lv_iadd hx hb dL_law_565 ?_
  refine va_sld hx hb hX hbl hbA hw.2 (vpi (j := 1) (by omega) hL) dL_law_566 ?_
  refine lv_aload_n hx hb dL_law_567 rfl (lv_at hl 1 rfl) ?_
  refine fw_callSWiN (f := fw_or fc (oC y o gl)) (g := f2) hx hb hml hown hts hE hw hd [.ref (α 0 0 0), .int (xs (nI i + 1).toNatClampNeg), .ref o] [] (c_L_acknowledged l D (fw_A (fun q => s.heap.size ≤ q) f2) y sa fc hfl α κ nw no nt wk (xs (nI i + 1).toNatClampNeg) hS.2.1 hRc o gl hdo) (vx_cwSW 3 hts gL_law_L_acknowledged rfl rfl rfl (by decide +kernel) ⟨Nat.le_of_ble_eq_true rfl, Nat.le_of_ble_eq_true rfl⟩) rfl hl.1 rfl (Nat.le_of_ble_eq_true rfl) dL_law_568 ⟨by show cells + 1 ≤ 601024; omega, by show slots + 6 ≤ 7293033; omega⟩ (fun k f3 H locs hp hd3 hw => ?_)
  refine lv_istore (lv' := [(5, .int k), (4, .int (nI i)), (3, .ref o), (2, .ref (β 0)), (1, .ref (α 0 0 0)), (0, .ref b)]) hx hb dL_law_571 hl (by decide) rfl (fun ls hl => ?_)
  rw [fw_or_c hd3] at hw
  refine lv_aload_n hx hb dL_law_573 rfl (lv_at hl 3 rfl) ?_
  refine lv_aload_n hx hb dL_law_574 rfl (lv_at hl 5 rfl) ?_
  refine lv_iload hx hb dL_law_575 (lv_at hl 1 rfl) ?_
  refine lv_iconst (v := 1) hx hb dL_law_577 (by decide) ?_
  refine lv_iadd hx hb dL_law_578 ?_
  refine va_sld hx hb hX hbl hbA hw.2 (vpi (j := 1) (by omega) hL) dL_law_579 ?_
  refine fw_callViN hx hb hml hown hts hE hw hd3.symm [.int (xs (nI i + 1).toNatClampNeg)] [] (c_X9_acknowledged l D (fw_A (fun q => s.heap.size ≤ q) f3) y sa f2 β μ (xs (nI i + 1).toNatClampNeg) nw wk no nt hS.1 hRm) (cwV 1 hts gL_law_X9_acknowledged rfl rfl rfl (by decide +kernel) ⟨Nat.le_of_ble_eq_true rfl, Nat.le_of_ble_eq_true rfl⟩) (ci := 9) rfl rfl hRm.o rfl hl.1 rfl (Nat.le_of_ble_eq_true rfl) dL_law_580 ⟨by show cells + 1 + 0 ≤ 601024; omega, by show slots + 6 + 0 ≤ 7293033; omega⟩ (fun bv f4 H locs hp2 hd4 hw => ?_)
  refine W.widen (k := cells + 8) (n := slots + 131) (by omega) (by omega) ?_
  exact lw_tail (off := 816) C0 hE (mt_acknowledged hS hRc hdo hp hp2) hd4 hw hl ⟨hc1, hc2⟩ dL_law_583 dL_law_585 dL_law_586 dL_law_589 dL_law_591 dL_law_596 dL_law_598 dL_law_601 dL_law_602 dL_law_603 dL_law_604 dL_law_606 dL_law_607 dL_law_608 dL_law_613 rfl IH
set_option maxHeartbeats 4000000 in
set_option maxRecDepth 100000 in
/-- case 6 of the law: due -/
theorem lw_c_due {p : Program} {e : Env} {s : State} {m : MethodId} {below : List Frame} {meth : Method} {c : Code} {l : Launch} (hfl : l.stackTraces = false) {b L : Nat} {xs : Nat → Int32} {D : va_G} {y : Nat → ClassId} {sa : Nat → Nat} (C0 : lw_At p s m meth c b L xs) (hL : L ≤ 3072) (hE : fw_E D (fun q => s.heap.size ≤ q) y sa s)
    {i o x0 : Nat} {β : Nat → Nat} (hi : i + 6 ≤ L) {f1 f2 : fw_F} (hN : lwI y o x0 β f1 f2) (hd : fw_dis f1 f2) {H : Heap} {locs : List Loc} {ls : Array Slot} (hw : fw_S D (fun q => s.heap.size ≤ q) s.heap (fw_or f1 f2) H locs) (hl : lv_has ls 7 [(4, .int (nI i)), (3, .ref o), (2, .ref (β 0)), (1, .ref x0), (0, .ref b)])
    {cells slots : Nat} (hcr : cells + 8 ≤ 601024 ∧ slots + 131 ≤ 7293033) {Q : State → Prop}
    (IH : ∀ (g1 g2 : fw_F) (H : Heap) (locs : List Loc) (ls : Array Slot), lwI y o x0 β g1 g2 → fw_dis g1 g2 → fw_S D (fun q => s.heap.size ≤ q) s.heap (fw_or g1 g2) H locs → lv_has ls 7 [(4, .int (nI i)), (3, .ref o), (2, .ref (β 0)), (1, .ref x0), (0, .ref b)] → W p l e room_1 s m #[Value.ref b] below meth c H locs (cells + 8) (slots + 131) Q (F0 m 1429 ls [])) :
    W p l e room_1 s m #[Value.ref b] below meth c H locs cells slots Q (F0 m 616 ls []) := by
  obtain ⟨hx, hb, hr, hml, hown, hts0, hX, hbl, hlocks, hgv⟩ := id C0
  have hown : s.vm.findClass RL = some m.cls := hown
  have hts : ∀ w ∈ wsL_law, w.before #[Value.ref b] s = true := fun w h => hts0 w (wsL_law_in w h)
  have hbA : ¬ (fun q : Nat => s.heap.size ≤ q) b := Nat.not_le.mpr hbl
  obtain ⟨hc1, hc2⟩ := hcr
  obtain ⟨μ, κ, nw, no, nt, wk, α, fc, gl, hS, hRc, rfl, hRm, hdo, rfl⟩ := hN
  refine lv_aload_n hx hb dL_law_616 rfl (lv_at hl 3 rfl) ?_
  refine lv_aload_n hx hb dL_law_617 rfl (lv_at hl 4 rfl) ?_
  refine lv_iload hx hb dL_law_618 (lv_at hl 0 rfl) ?_
  refine lv_iconst (v := 1) hx hb dL_law_620 (by decide) ?_
  refine lv_iadd hx hb dL_law_621 ?_
  refine va_sld hx hb hX hbl hbA hw.2 (vpi (j := 1) (by omega) hL) dL_law_622 ?_
  refine lv_aload_n hx hb dL_law_623 rfl (lv_at hl 4 rfl) ?_
  refine lv_iload hx hb dL_law_624 (lv_at hl 0 rfl) ?_
  refine lv_iconst (v := 2) hx hb dL_law_626 (by decide) ?_
  refine lv_iadd hx hb dL_law_627 ?_
  refine va_sld hx hb hX hbl hbA hw.2 (vpi (j := 2) (by omega) hL) dL_law_628 ?_
  refine lv_aload_n hx hb dL_law_629 rfl (lv_at hl 1 rfl) ?_
  refine fw_callSWiN (f := fw_or fc (oC y o gl)) (g := f2) hx hb hml hown hts hE hw hd [.ref (α 0 0 0), .int (xs (nI i + 1).toNatClampNeg), .int (xs (nI i + 2).toNatClampNeg), .ref o] [] (c_L_due l D (fw_A (fun q => s.heap.size ≤ q) f2) y sa fc hfl α κ nw no nt wk (xs (nI i + 1).toNatClampNeg) (xs (nI i + 2).toNatClampNeg) hS.2.1 hRc o gl hdo) (vx_cwSW 4 hts gL_law_L_due rfl rfl rfl (by decide +kernel) ⟨Nat.le_of_ble_eq_true rfl, Nat.le_of_ble_eq_true rfl⟩) rfl hl.1 rfl (Nat.le_of_ble_eq_true rfl) dL_law_630 ⟨by show cells + 2 ≤ 601024; omega, by show slots + 12 ≤ 7293033; omega⟩ (fun k f3 H locs hp hd3 hw => ?_)
  refine lv_istore (lv' := [(5, .int k), (4, .int (nI i)), (3, .ref o), (2, .ref (β 0)), (1, .ref (α 0 0 0)), (0, .ref b)]) hx hb dL_law_633 hl (by decide) rfl (fun ls hl => ?_)
  rw [fw_or_c hd3] at hw
  refine lv_aload_n hx hb dL_law_635 rfl (lv_at hl 3 rfl) ?_
  refine lv_aload_n hx hb dL_law_636 rfl (lv_at hl 5 rfl) ?_
  refine lv_iload hx hb dL_law_637 (lv_at hl 1 rfl) ?_
  refine lv_iconst (v := 1) hx hb dL_law_639 (by decide) ?_
  refine lv_iadd hx hb dL_law_640 ?_
  refine va_sld hx hb hX hbl hbA hw.2 (vpi (j := 1) (by omega) hL) dL_law_641 ?_
  refine lv_aload_n hx hb dL_law_642 rfl (lv_at hl 5 rfl) ?_
  refine lv_iload hx hb dL_law_643 (lv_at hl 1 rfl) ?_
  refine lv_iconst (v := 2) hx hb dL_law_645 (by decide) ?_
  refine lv_iadd hx hb dL_law_646 ?_
  refine va_sld hx hb hX hbl hbA hw.2 (vpi (j := 2) (by omega) hL) dL_law_647 ?_
  refine fw_callViN hx hb hml hown hts hE hw hd3.symm [.int (xs (nI i + 1).toNatClampNeg), .int (xs (nI i + 2).toNatClampNeg)] [] (c_X9_due l D (fw_A (fun q => s.heap.size ≤ q) f3) y sa f2 β μ (xs (nI i + 1).toNatClampNeg) (xs (nI i + 2).toNatClampNeg) nw wk no nt hS.1 hRm) (cwV 2 hts gL_law_X9_due rfl rfl rfl (by decide +kernel) ⟨Nat.le_of_ble_eq_true rfl, Nat.le_of_ble_eq_true rfl⟩) (ci := 9) rfl rfl hRm.o rfl hl.1 rfl (Nat.le_of_ble_eq_true rfl) dL_law_648 ⟨by show cells + 2 + 0 ≤ 601024; omega, by show slots + 12 + 0 ≤ 7293033; omega⟩ (fun bv f4 H locs hp2 hd4 hw => ?_)
  refine W.widen (k := cells + 8) (n := slots + 131) (by omega) (by omega) ?_
  exact lw_tail (off := 748) C0 hE (mt_due hS hRc hdo hp hp2) hd4 hw hl ⟨hc1, hc2⟩ dL_law_651 dL_law_653 dL_law_654 dL_law_657 dL_law_659 dL_law_664 dL_law_666 dL_law_669 dL_law_670 dL_law_671 dL_law_672 dL_law_674 dL_law_675 dL_law_676 dL_law_681 rfl IH
set_option maxHeartbeats 4000000 in
set_option maxRecDepth 100000 in
/-- case 7 of the law: order -/
theorem lw_c_order {p : Program} {e : Env} {s : State} {m : MethodId} {below : List Frame} {meth : Method} {c : Code} {l : Launch} (hfl : l.stackTraces = false) {b L : Nat} {xs : Nat → Int32} {D : va_G} {y : Nat → ClassId} {sa : Nat → Nat} (C0 : lw_At p s m meth c b L xs) (hL : L ≤ 3072) (hE : fw_E D (fun q => s.heap.size ≤ q) y sa s)
    {i o x0 : Nat} {β : Nat → Nat} (hi : i + 6 ≤ L) {f1 f2 : fw_F} (hN : lwI y o x0 β f1 f2) (hd : fw_dis f1 f2) {H : Heap} {locs : List Loc} {ls : Array Slot} (hw : fw_S D (fun q => s.heap.size ≤ q) s.heap (fw_or f1 f2) H locs) (hl : lv_has ls 7 [(4, .int (nI i)), (3, .ref o), (2, .ref (β 0)), (1, .ref x0), (0, .ref b)])
    {cells slots : Nat} (hcr : cells + 8 ≤ 601024 ∧ slots + 131 ≤ 7293033) {Q : State → Prop}
    (IH : ∀ (g1 g2 : fw_F) (H : Heap) (locs : List Loc) (ls : Array Slot), lwI y o x0 β g1 g2 → fw_dis g1 g2 → fw_S D (fun q => s.heap.size ≤ q) s.heap (fw_or g1 g2) H locs → lv_has ls 7 [(4, .int (nI i)), (3, .ref o), (2, .ref (β 0)), (1, .ref x0), (0, .ref b)] → W p l e room_1 s m #[Value.ref b] below meth c H locs (cells + 8) (slots + 131) Q (F0 m 1429 ls [])) :
    W p l e room_1 s m #[Value.ref b] below meth c H locs cells slots Q (F0 m 684 ls []) := by
  obtain ⟨hx, hb, hr, hml, hown, hts0, hX, hbl, hlocks, hgv⟩ := id C0
  have hown : s.vm.findClass RL = some m.cls := hown
  have hts : ∀ w ∈ wsL_law, w.before #[Value.ref b] s = true := fun w h => hts0 w (wsL_law_in w h)
  have hbA : ¬ (fun q : Nat => s.heap.size ≤ q) b := Nat.not_le.mpr hbl
  obtain ⟨hc1, hc2⟩ := hcr
  obtain ⟨μ, κ, nw, no, nt, wk, α, fc, gl, hS, hRc, rfl, hRm, hdo, rfl⟩ := hN
  refine lv_aload_n hx hb dL_law_684 rfl (lv_at hl 3 rfl) ?_
  refine lv_aload_n hx hb dL_law_685 rfl (lv_at hl 4 rfl) ?_
  refine lv_iload hx hb dL_law_686 (lv_at hl 0 rfl) ?_
  refine lv_iconst (v := 1) hx hb dL_law_688 (by decide) ?_
  refine lv_iadd hx hb dL_law_689 ?_
  refine va_sld hx hb hX hbl hbA hw.2 (vpi (j := 1) (by omega) hL) dL_law_690 ?_
  refine lv_aload_n hx hb dL_law_691 rfl (lv_at hl 4 rfl) ?_
  refine lv_iload hx hb dL_law_692 (lv_at hl 0 rfl) ?_
  refine lv_iconst (v := 2) hx hb dL_law_694 (by decide) ?_
  refine lv_iadd hx hb dL_law_695 ?_
  refine va_sld hx hb hX hbl hbA hw.2 (vpi (j := 2) (by omega) hL) dL_law_696 ?_
  refine lv_aload_n hx hb dL_law_697 rfl (lv_at hl 4 rfl) ?_
  refine lv_iload hx hb dL_law_698 (lv_at hl 0 rfl) ?_
  refine lv_iconst (v := 3) hx hb dL_law_700 (by decide) ?_
  refine lv_iadd hx hb dL_law_701 ?_
  refine va_sld hx hb hX hbl hbA hw.2 (vpi (j := 3) (by omega) hL) dL_law_702 ?_
  refine lv_aload_n hx hb dL_law_703 rfl (lv_at hl 4 rfl) ?_
  refine lv_iload hx hb dL_law_704 (lv_at hl 0 rfl) ?_
  refine lv_iconst (v := 4) hx hb dL_law_706 (by decide) ?_
  refine lv_iadd hx hb dL_law_707 ?_
  refine va_sld hx hb hX hbl hbA hw.2 (vpi (j := 4) (by omega) hL) dL_law_708 ?_
  refine lv_aload_n hx hb dL_law_709 rfl (lv_at hl 1 rfl) ?_
  refine fw_callSWiN (f := fw_or fc (oC y o gl)) (g := f2) hx hb hml hown hts hE hw hd [.ref (α 0 0 0), .int (xs (nI i + 1).toNatClampNeg), .int (xs (nI i + 2).toNatClampNeg), .int (xs (nI i + 3).toNatClampNeg), .int (xs (nI i + 4).toNatClampNeg), .ref o] [] (c_L_order l D (fw_A (fun q => s.heap.size ≤ q) f2) y sa fc hfl α κ nw no nt wk (xs (nI i + 1).toNatClampNeg) (xs (nI i + 2).toNatClampNeg) (xs (nI i + 3).toNatClampNeg) (xs (nI i + 4).toNatClampNeg) hS.2.1 hRc o gl hdo) (vx_cwSW 6 hts gL_law_L_order rfl rfl rfl (by decide +kernel) ⟨Nat.le_of_ble_eq_true rfl, Nat.le_of_ble_eq_true rfl⟩) rfl hl.1 rfl (Nat.le_of_ble_eq_true rfl) dL_law_710 ⟨by show cells + 5 ≤ 601024; omega, by show slots + 30 ≤ 7293033; omega⟩ (fun k f3 H locs hp hd3 hw => ?_)
  refine lv_istore (lv' := [(5, .int k), (4, .int (nI i)), (3, .ref o), (2, .ref (β 0)), (1, .ref (α 0 0 0)), (0, .ref b)]) hx hb dL_law_713 hl (by decide) rfl (fun ls hl => ?_)
  rw [fw_or_c hd3] at hw
  refine lv_aload_n hx hb dL_law_715 rfl (lv_at hl 3 rfl) ?_
  refine lv_aload_n hx hb dL_law_716 rfl (lv_at hl 5 rfl) ?_
  refine lv_iload hx hb dL_law_717 (lv_at hl 1 rfl) ?_
  refine lv_iconst (v := 1) hx hb dL_law_719 (by decide) ?_
  refine lv_iadd hx hb dL_law_720 ?_
  refine va_sld hx hb hX hbl hbA hw.2 (vpi (j := 1) (by omega) hL) dL_law_721 ?_
  refine lv_aload_n hx hb dL_law_722 rfl (lv_at hl 5 rfl) ?_
  refine lv_iload hx hb dL_law_723 (lv_at hl 1 rfl) ?_
  refine lv_iconst (v := 2) hx hb dL_law_725 (by decide) ?_
  refine lv_iadd hx hb dL_law_726 ?_
  refine va_sld hx hb hX hbl hbA hw.2 (vpi (j := 2) (by omega) hL) dL_law_727 ?_
  refine lv_aload_n hx hb dL_law_728 rfl (lv_at hl 5 rfl) ?_
  refine lv_iload hx hb dL_law_729 (lv_at hl 1 rfl) ?_
  refine lv_iconst (v := 3) hx hb dL_law_731 (by decide) ?_
  refine lv_iadd hx hb dL_law_732 ?_
  refine va_sld hx hb hX hbl hbA hw.2 (vpi (j := 3) (by omega) hL) dL_law_733 ?_
  refine lv_aload_n hx hb dL_law_734 rfl (lv_at hl 5 rfl) ?_
  refine lv_iload hx hb dL_law_735 (lv_at hl 1 rfl) ?_
  refine lv_iconst (v := 4) hx hb dL_law_737 (by decide) ?_
  refine lv_iadd hx hb dL_law_738 ?_
  refine va_sld hx hb hX hbl hbA hw.2 (vpi (j := 4) (by omega) hL) dL_law_739 ?_
  refine fw_callViN hx hb hml hown hts hE hw hd3.symm [.int (xs (nI i + 1).toNatClampNeg), .int (xs (nI i + 2).toNatClampNeg), .int (xs (nI i + 3).toNatClampNeg), .int (xs (nI i + 4).toNatClampNeg)] [] (c_X9_order l D (fw_A (fun q => s.heap.size ≤ q) f3) y sa f2 β μ (xs (nI i + 1).toNatClampNeg) (xs (nI i + 2).toNatClampNeg) (xs (nI i + 3).toNatClampNeg) (xs (nI i + 4).toNatClampNeg) nw wk no nt hS.1 hRm) (cwV 4 hts gL_law_X9_order rfl rfl rfl (by decide +kernel) ⟨Nat.le_of_ble_eq_true rfl, Nat.le_of_ble_eq_true rfl⟩) (ci := 9) rfl rfl hRm.o rfl hl.1 rfl (Nat.le_of_ble_eq_true rfl) dL_law_740 ⟨by show cells + 5 + 0 ≤ 601024; omega, by show slots + 30 + 0 ≤ 7293033; omega⟩ (fun bv f4 H locs hp2 hd4 hw => ?_)
  refine W.widen (k := cells + 8) (n := slots + 131) (by omega) (by omega) ?_
  exact lw_tail (off := 656) C0 hE (mt_order hS hRc hdo hp hp2) hd4 hw hl ⟨hc1, hc2⟩ dL_law_743 dL_law_745 dL_law_746 dL_law_749 dL_law_751 dL_law_756 dL_law_758 dL_law_761 dL_law_762 dL_law_763 dL_law_764 dL_law_766 dL_law_767 dL_law_768 dL_law_773 rfl IH
