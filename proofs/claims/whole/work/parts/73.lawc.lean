set_option maxHeartbeats 4000000 in
set_option maxRecDepth 100000 in
/-- case 8 of the law: left -/
theorem lw_c_left {p : Program} {e : Env} {s : State} {m : MethodId} {below : List Frame} {meth : Method} {c : Code} {l : Launch} (hfl : l.stackTraces = false) {b L : Nat} {xs : Nat → Int32} {D : va_G} {y : Nat → ClassId} {sa : Nat → Nat} (C0 : lw_At p s m meth c b L xs) (hL : L ≤ 3072) (hE : fw_E D (fun q => s.heap.size ≤ q) y sa s)
    {i o x0 : Nat} {β : Nat → Nat} (hi : i + 6 ≤ L) {f1 f2 : fw_F} (hN : lwI y o x0 β f1 f2) (hd : fw_dis f1 f2) {H : Heap} {locs : List Loc} {ls : Array Slot} (hw : fw_S D (fun q => s.heap.size ≤ q) s.heap (fw_or f1 f2) H locs) (hl : lv_has ls 7 [(4, .int (nI i)), (3, .ref o), (2, .ref (β 0)), (1, .ref x0), (0, .ref b)])
    {cells slots : Nat} (hcr : cells + 8 ≤ 601024 ∧ slots + 131 ≤ 7293033) {Q : State → Prop}
    (IH : ∀ (g1 g2 : fw_F) (H : Heap) (locs : List Loc) (ls : Array Slot), lwI y o x0 β g1 g2 → fw_dis g1 g2 → fw_S D (fun q => s.heap.size ≤ q) s.heap (fw_or g1 g2) H locs → lv_has ls 7 [(4, .int (nI i)), (3, .ref o), (2, .ref (β 0)), (1, .ref x0), (0, .ref b)] → W p l e room_1 s m #[Value.ref b] below meth c H locs (cells + 8) (slots + 131) Q (F0 m 1429 ls [])) :
    W p l e room_1 s m #[Value.ref b] below meth c H locs cells slots Q (F0 m 776 ls []) := by
  obtain ⟨hx, hb, hr, hml, hown, hts0, hX, hbl, hlocks, hgv⟩ := id C0
  have hown : s.vm.findClass RL = some m.cls := hown
  have hts : ∀ w ∈ wsL_law, w.before #[Value.ref b] s = true := fun w h => hts0 w (wsL_law_in w h)
  have hbA : ¬ (fun q : Nat => s.heap.size ≤ q) b := Nat.not_le.mpr hbl
  obtain ⟨hc1, hc2⟩ := hcr
  obtain ⟨μ, κ, nw, no, nt, wk, α, fc, gl, hS, hRc, rfl, hRm, hdo, rfl⟩ := hN
  refine lv_aload_n hx hb dL_law_776 rfl (lv_at hl 3 rfl) ?_
  refine lv_aload_n hx hb dL_law_777 rfl (lv_at hl 4 rfl) ?_
  refine lv_iload hx hb dL_law_778 (lv_at hl 0 rfl) ?_
  refine lv_iconst (v := 1) hx hb dL_law_780 (by decide) ?_
  refine lv_iadd hx hb dL_law_781 ?_
  refine va_sld hx hb hX hbl hbA hw.2 (vpi (j := 1) (by omega) hL) dL_law_782 ?_
  refine lv_aload_n hx hb dL_law_783 rfl (lv_at hl 1 rfl) ?_
  refine fw_callSWiN (f := fw_or fc (oC y o gl)) (g := f2) hx hb hml hown hts hE hw hd [.ref (α 0 0 0), .int (xs (nI i + 1).toNatClampNeg), .ref o] [] (c_L_left l D (fw_A (fun q => s.heap.size ≤ q) f2) y sa fc hfl α κ nw no nt wk (xs (nI i + 1).toNatClampNeg) hS.2.1 hRc o gl hdo) (vx_cwSW 3 hts gL_law_L_left rfl rfl rfl (by decide +kernel) ⟨Nat.le_of_ble_eq_true rfl, Nat.le_of_ble_eq_true rfl⟩) rfl hl.1 rfl (Nat.le_of_ble_eq_true rfl) dL_law_784 ⟨by show cells + 1 ≤ 601024; omega, by show slots + 6 ≤ 7293033; omega⟩ (fun k f3 H locs hp hd3 hw => ?_)
  refine lv_istore (lv' := [(5, .int k), (4, .int (nI i)), (3, .ref o), (2, .ref (β 0)), (1, .ref (α 0 0 0)), (0, .ref b)]) hx hb dL_law_787 hl (by decide) rfl (fun ls hl => ?_)
  rw [fw_or_c hd3] at hw
  refine lv_aload_n hx hb dL_law_789 rfl (lv_at hl 3 rfl) ?_
  refine lv_aload_n hx hb dL_law_790 rfl (lv_at hl 5 rfl) ?_
  refine lv_iload hx hb dL_law_791 (lv_at hl 1 rfl) ?_
  refine lv_iconst (v := 1) hx hb dL_law_793 (by decide) ?_
  refine lv_iadd hx hb dL_law_794 ?_
  refine va_sld hx hb hX hbl hbA hw.2 (vpi (j := 1) (by omega) hL) dL_law_795 ?_
  refine fw_callViN hx hb hml hown hts hE hw hd3.symm [.int (xs (nI i + 1).toNatClampNeg)] [] (c_X9_left l D (fw_A (fun q => s.heap.size ≤ q) f3) y sa f2 β μ (xs (nI i + 1).toNatClampNeg) nw wk no nt hS.1 hRm) (cwV 1 hts gL_law_X9_left rfl rfl rfl (by decide +kernel) ⟨Nat.le_of_ble_eq_true rfl, Nat.le_of_ble_eq_true rfl⟩) (ci := 9) rfl rfl hRm.o rfl hl.1 rfl (Nat.le_of_ble_eq_true rfl) dL_law_796 ⟨by show cells + 1 + 0 ≤ 601024; omega, by show slots + 6 + 0 ≤ 7293033; omega⟩ (fun bv f4 H locs hp2 hd4 hw => ?_)
  refine W.widen (k := cells + 8) (n := slots + 131) (by omega) (by omega) ?_
  exact lw_tail (off := 600) C0 hE (mt_left hS hRc hdo hp hp2) hd4 hw hl ⟨hc1, hc2⟩ dL_law_799 dL_law_801 dL_law_802 dL_law_805 dL_law_807 dL_law_812 dL_law_814 dL_law_817 dL_law_818 dL_law_819 dL_law_820 dL_law_822 dL_law_823 dL_law_824 dL_law_829 rfl IH
set_option maxHeartbeats 4000000 in
set_option maxRecDepth 100000 in
/-- case 9 of the law: setFloor -/
theorem lw_c_setFloor {p : Program} {e : Env} {s : State} {m : MethodId} {below : List Frame} {meth : Method} {c : Code} {l : Launch} (hfl : l.stackTraces = false) {b L : Nat} {xs : Nat → Int32} {D : va_G} {y : Nat → ClassId} {sa : Nat → Nat} (C0 : lw_At p s m meth c b L xs) (hL : L ≤ 3072) (hE : fw_E D (fun q => s.heap.size ≤ q) y sa s)
    {i o x0 : Nat} {β : Nat → Nat} (hi : i + 6 ≤ L) {f1 f2 : fw_F} (hN : lwI y o x0 β f1 f2) (hd : fw_dis f1 f2) {H : Heap} {locs : List Loc} {ls : Array Slot} (hw : fw_S D (fun q => s.heap.size ≤ q) s.heap (fw_or f1 f2) H locs) (hl : lv_has ls 7 [(4, .int (nI i)), (3, .ref o), (2, .ref (β 0)), (1, .ref x0), (0, .ref b)])
    {cells slots : Nat} (hcr : cells + 8 ≤ 601024 ∧ slots + 131 ≤ 7293033) {Q : State → Prop}
    (IH : ∀ (g1 g2 : fw_F) (H : Heap) (locs : List Loc) (ls : Array Slot), lwI y o x0 β g1 g2 → fw_dis g1 g2 → fw_S D (fun q => s.heap.size ≤ q) s.heap (fw_or g1 g2) H locs → lv_has ls 7 [(4, .int (nI i)), (3, .ref o), (2, .ref (β 0)), (1, .ref x0), (0, .ref b)] → W p l e room_1 s m #[Value.ref b] below meth c H locs (cells + 8) (slots + 131) Q (F0 m 1429 ls [])) :
    W p l e room_1 s m #[Value.ref b] below meth c H locs cells slots Q (F0 m 832 ls []) := by
  obtain ⟨hx, hb, hr, hml, hown, hts0, hX, hbl, hlocks, hgv⟩ := id C0
  have hown : s.vm.findClass RL = some m.cls := hown
  have hts : ∀ w ∈ wsL_law, w.before #[Value.ref b] s = true := fun w h => hts0 w (wsL_law_in w h)
  have hbA : ¬ (fun q : Nat => s.heap.size ≤ q) b := Nat.not_le.mpr hbl
  obtain ⟨hc1, hc2⟩ := hcr
  obtain ⟨μ, κ, nw, no, nt, wk, α, fc, gl, hS, hRc, rfl, hRm, hdo, rfl⟩ := hN
  refine lv_aload_n hx hb dL_law_832 rfl (lv_at hl 3 rfl) ?_
  refine lv_aload_n hx hb dL_law_833 rfl (lv_at hl 4 rfl) ?_
  refine lv_iload hx hb dL_law_834 (lv_at hl 0 rfl) ?_
  refine lv_iconst (v := 1) hx hb dL_law_836 (by decide) ?_
  refine lv_iadd hx hb dL_law_837 ?_
  refine va_sld hx hb hX hbl hbA hw.2 (vpi (j := 1) (by omega) hL) dL_law_838 ?_
  refine lv_aload_n hx hb dL_law_839 rfl (lv_at hl 1 rfl) ?_
  refine fw_callSWiN (f := fw_or fc (oC y o gl)) (g := f2) hx hb hml hown hts hE hw hd [.ref (α 0 0 0), .int (xs (nI i + 1).toNatClampNeg), .ref o] [] (c_L_setFloor l D (fw_A (fun q => s.heap.size ≤ q) f2) y sa fc hfl α κ nw no nt wk (xs (nI i + 1).toNatClampNeg) hS.2.1 hRc o gl hdo) (vx_cwSW 3 hts gL_law_L_setFloor rfl rfl rfl (by decide +kernel) ⟨Nat.le_of_ble_eq_true rfl, Nat.le_of_ble_eq_true rfl⟩) rfl hl.1 rfl (Nat.le_of_ble_eq_true rfl) dL_law_840 ⟨by show cells + 1 ≤ 601024; omega, by show slots + 6 ≤ 7293033; omega⟩ (fun k f3 H locs hp hd3 hw => ?_)
  refine lv_istore (lv' := [(5, .int k), (4, .int (nI i)), (3, .ref o), (2, .ref (β 0)), (1, .ref (α 0 0 0)), (0, .ref b)]) hx hb dL_law_843 hl (by decide) rfl (fun ls hl => ?_)
  rw [fw_or_c hd3] at hw
  refine lv_aload_n hx hb dL_law_845 rfl (lv_at hl 3 rfl) ?_
  refine lv_aload_n hx hb dL_law_846 rfl (lv_at hl 5 rfl) ?_
  refine lv_iload hx hb dL_law_847 (lv_at hl 1 rfl) ?_
  refine lv_iconst (v := 1) hx hb dL_law_849 (by decide) ?_
  refine lv_iadd hx hb dL_law_850 ?_
  refine va_sld hx hb hX hbl hbA hw.2 (vpi (j := 1) (by omega) hL) dL_law_851 ?_
  refine fw_callViN hx hb hml hown hts hE hw hd3.symm [.int (xs (nI i + 1).toNatClampNeg)] [] (c_X9_setFloor l D (fw_A (fun q => s.heap.size ≤ q) f3) y sa f2 β μ (xs (nI i + 1).toNatClampNeg) hRm) (cwV 1 hts gL_law_X9_setFloor rfl rfl rfl (by decide +kernel) ⟨Nat.le_of_ble_eq_true rfl, Nat.le_of_ble_eq_true rfl⟩) (ci := 9) rfl rfl hRm.o rfl hl.1 rfl (Nat.le_of_ble_eq_true rfl) dL_law_852 ⟨by show cells + 1 + 0 ≤ 601024; omega, by show slots + 6 + 0 ≤ 7293033; omega⟩ (fun bv f4 H locs hp2 hd4 hw => ?_)
  refine W.widen (k := cells + 8) (n := slots + 131) (by omega) (by omega) ?_
  exact lw_tail (off := 544) C0 hE (mt_setFloor hS hRc hdo hp hp2) hd4 hw hl ⟨hc1, hc2⟩ dL_law_855 dL_law_857 dL_law_858 dL_law_861 dL_law_863 dL_law_868 dL_law_870 dL_law_873 dL_law_874 dL_law_875 dL_law_876 dL_law_878 dL_law_879 dL_law_880 dL_law_885 rfl IH
set_option maxHeartbeats 4000000 in
set_option maxRecDepth 100000 in
/-- case 10 of the law: fill -/
theorem lw_c_fill {p : Program} {e : Env} {s : State} {m : MethodId} {below : List Frame} {meth : Method} {c : Code} {l : Launch} (hfl : l.stackTraces = false) {b L : Nat} {xs : Nat → Int32} {D : va_G} {y : Nat → ClassId} {sa : Nat → Nat} (C0 : lw_At p s m meth c b L xs) (hL : L ≤ 3072) (hE : fw_E D (fun q => s.heap.size ≤ q) y sa s)
    {i o x0 : Nat} {β : Nat → Nat} (hi : i + 6 ≤ L) {f1 f2 : fw_F} (hN : lwI y o x0 β f1 f2) (hd : fw_dis f1 f2) {H : Heap} {locs : List Loc} {ls : Array Slot} (hw : fw_S D (fun q => s.heap.size ≤ q) s.heap (fw_or f1 f2) H locs) (hl : lv_has ls 7 [(4, .int (nI i)), (3, .ref o), (2, .ref (β 0)), (1, .ref x0), (0, .ref b)])
    {cells slots : Nat} (hcr : cells + 8 ≤ 601024 ∧ slots + 131 ≤ 7293033) {Q : State → Prop}
    (IH : ∀ (g1 g2 : fw_F) (H : Heap) (locs : List Loc) (ls : Array Slot), lwI y o x0 β g1 g2 → fw_dis g1 g2 → fw_S D (fun q => s.heap.size ≤ q) s.heap (fw_or g1 g2) H locs → lv_has ls 7 [(4, .int (nI i)), (3, .ref o), (2, .ref (β 0)), (1, .ref x0), (0, .ref b)] → W p l e room_1 s m #[Value.ref b] below meth c H locs (cells + 8) (slots + 131) Q (F0 m 1429 ls [])) :
    W p l e room_1 s m #[Value.ref b] below meth c H locs cells slots Q (F0 m 888 ls []) := by
  obtain ⟨hx, hb, hr, hml, hown, hts0, hX, hbl, hlocks, hgv⟩ := id C0
  have hown : s.vm.findClass RL = some m.cls := hown
  have hts : ∀ w ∈ wsL_law, w.before #[Value.ref b] s = true := fun w h => hts0 w (wsL_law_in w h)
  have hbA : ¬ (fun q : Nat => s.heap.size ≤ q) b := Nat.not_le.mpr hbl
  obtain ⟨hc1, hc2⟩ := hcr
  obtain ⟨μ, κ, nw, no, nt, wk, α, fc, gl, hS, hRc, rfl, hRm, hdo, rfl⟩ := hN
  refine lv_aload_n hx hb dL_law_888 rfl (lv_at hl 3 rfl) ?_
  refine lv_aload_n hx hb dL_law_889 rfl (lv_at hl 4 rfl) ?_
  refine lv_iload hx hb dL_law_890 (lv_at hl 0 rfl) ?_
  refine lv_iconst (v := 1) hx hb dL_law_892 (by decide) ?_
  refine lv_iadd hx hb dL_law_893 ?_
  refine va_sld hx hb hX hbl hbA hw.2 (vpi (j := 1) (by omega) hL) dL_law_894 ?_
  refine lv_aload_n hx hb dL_law_895 rfl (lv_at hl 4 rfl) ?_
  refine lv_iload hx hb dL_law_896 (lv_at hl 0 rfl) ?_
  refine lv_iconst (v := 2) hx hb dL_law_898 (by decide) ?_
  refine lv_iadd hx hb dL_law_899 ?_
  refine va_sld hx hb hX hbl hbA hw.2 (vpi (j := 2) (by omega) hL) dL_law_900 ?_
  refine lv_aload_n hx hb dL_law_901 rfl (lv_at hl 1 rfl) ?_
  refine fw_callSWiN (f := fw_or fc (oC y o gl)) (g := f2) hx hb hml hown hts hE hw hd [.ref (α 0 0 0), .int (xs (nI i + 1).toNatClampNeg), .int (xs (nI i + 2).toNatClampNeg), .ref o] [] (c_L_fill l D (fw_A (fun q => s.heap.size ≤ q) f2) y sa fc hfl α κ nw no nt wk (xs (nI i + 1).toNatClampNeg) (xs (nI i + 2).toNatClampNeg) hS.2.1 hRc o gl hdo) (vx_cwSW 4 hts gL_law_L_fill rfl rfl rfl (by decide +kernel) ⟨Nat.le_of_ble_eq_true rfl, Nat.le_of_ble_eq_true rfl⟩) rfl hl.1 rfl (Nat.le_of_ble_eq_true rfl) dL_law_902 ⟨by show cells + 3 ≤ 601024; omega, by show slots + 18 ≤ 7293033; omega⟩ (fun k f3 H locs hp hd3 hw => ?_)
  refine lv_istore (lv' := [(5, .int k), (4, .int (nI i)), (3, .ref o), (2, .ref (β 0)), (1, .ref (α 0 0 0)), (0, .ref b)]) hx hb dL_law_905 hl (by decide) rfl (fun ls hl => ?_)
  rw [fw_or_c hd3] at hw
  refine lv_aload_n hx hb dL_law_907 rfl (lv_at hl 3 rfl) ?_
  refine lv_aload_n hx hb dL_law_908 rfl (lv_at hl 5 rfl) ?_
  refine lv_iload hx hb dL_law_909 (lv_at hl 1 rfl) ?_
  refine lv_iconst (v := 1) hx hb dL_law_911 (by decide) ?_
  refine lv_iadd hx hb dL_law_912 ?_
  refine va_sld hx hb hX hbl hbA hw.2 (vpi (j := 1) (by omega) hL) dL_law_913 ?_
  refine lv_aload_n hx hb dL_law_914 rfl (lv_at hl 5 rfl) ?_
  refine lv_iload hx hb dL_law_915 (lv_at hl 1 rfl) ?_
  refine lv_iconst (v := 2) hx hb dL_law_917 (by decide) ?_
  refine lv_iadd hx hb dL_law_918 ?_
  refine va_sld hx hb hX hbl hbA hw.2 (vpi (j := 2) (by omega) hL) dL_law_919 ?_
  refine fw_callViN hx hb hml hown hts hE hw hd3.symm [.int (xs (nI i + 1).toNatClampNeg), .int (xs (nI i + 2).toNatClampNeg)] [] (c_X9_fill l D (fw_A (fun q => s.heap.size ≤ q) f3) y sa f2 β μ (xs (nI i + 1).toNatClampNeg) (xs (nI i + 2).toNatClampNeg) nw wk no nt hS.1 hRm) (cwV 2 hts gL_law_X9_fill rfl rfl rfl (by decide +kernel) ⟨Nat.le_of_ble_eq_true rfl, Nat.le_of_ble_eq_true rfl⟩) (ci := 9) rfl rfl hRm.o rfl hl.1 rfl (Nat.le_of_ble_eq_true rfl) dL_law_920 ⟨by show cells + 3 + 0 ≤ 601024; omega, by show slots + 18 + 0 ≤ 7293033; omega⟩ (fun bv f4 H locs hp2 hd4 hw => ?_)
  refine W.widen (k := cells + 8) (n := slots + 131) (by omega) (by omega) ?_
  exact lw_tail (off := 476) C0 hE (mt_fill hS hRc hdo hp hp2) hd4 hw hl ⟨hc1, hc2⟩ dL_law_923 dL_law_925 dL_law_926 dL_law_929 dL_law_931 dL_law_936 dL_law_938 dL_law_941 dL_law_942 dL_law_943 dL_law_944 dL_law_946 dL_law_947 dL_law_948 dL_law_953 rfl IH
set_option maxHeartbeats 4000000 in
set_option maxRecDepth 100000 in
/-- case 11 of the law: bounce -/
theorem lw_c_bounce {p : Program} {e : Env} {s : State} {m : MethodId} {below : List Frame} {meth : Method} {c : Code} {l : Launch} (hfl : l.stackTraces = false) {b L : Nat} {xs : Nat → Int32} {D : va_G} {y : Nat → ClassId} {sa : Nat → Nat} (C0 : lw_At p s m meth c b L xs) (hL : L ≤ 3072) (hE : fw_E D (fun q => s.heap.size ≤ q) y sa s)
    {i o x0 : Nat} {β : Nat → Nat} (hi : i + 6 ≤ L) {f1 f2 : fw_F} (hN : lwI y o x0 β f1 f2) (hd : fw_dis f1 f2) {H : Heap} {locs : List Loc} {ls : Array Slot} (hw : fw_S D (fun q => s.heap.size ≤ q) s.heap (fw_or f1 f2) H locs) (hl : lv_has ls 7 [(4, .int (nI i)), (3, .ref o), (2, .ref (β 0)), (1, .ref x0), (0, .ref b)])
    {cells slots : Nat} (hcr : cells + 8 ≤ 601024 ∧ slots + 131 ≤ 7293033) {Q : State → Prop}
    (IH : ∀ (g1 g2 : fw_F) (H : Heap) (locs : List Loc) (ls : Array Slot), lwI y o x0 β g1 g2 → fw_dis g1 g2 → fw_S D (fun q => s.heap.size ≤ q) s.heap (fw_or g1 g2) H locs → lv_has ls 7 [(4, .int (nI i)), (3, .ref o), (2, .ref (β 0)), (1, .ref x0), (0, .ref b)] → W p l e room_1 s m #[Value.ref b] below meth c H locs (cells + 8) (slots + 131) Q (F0 m 1429 ls [])) :
    W p l e room_1 s m #[Value.ref b] below meth c H locs cells slots Q (F0 m 956 ls []) := by
  obtain ⟨hx, hb, hr, hml, hown, hts0, hX, hbl, hlocks, hgv⟩ := id C0
  have hown : s.vm.findClass RL = some m.cls := hown
  have hts : ∀ w ∈ wsL_law, w.before #[Value.ref b] s = true := fun w h => hts0 w (wsL_law_in w h)
  have hbA : ¬ (fun q : Nat => s.heap.size ≤ q) b := Nat.not_le.mpr hbl
  obtain ⟨hc1, hc2⟩ := hcr
  obtain ⟨μ, κ, nw, no, nt, wk, α, fc, gl, hS, hRc, rfl, hRm, hdo, rfl⟩ := hN
  refine lv_aload_n hx hb dL_law_956 rfl (lv_at hl 3 rfl) ?_
  refine lv_aload_n hx hb dL_law_957 rfl (lv_at hl 4 rfl) ?_
  refine lv_iload hx hb dL_law_958 (lv_at hl 0 rfl) ?_
  refine lv_iconst (v := 1) hx hb dL_law_960 (by decide) ?_
  refine lv_iadd hx hb dL_law_961 ?_
  refine va_sld hx hb hX hbl hbA hw.2 (vpi (j := 1) (by omega) hL) dL_law_962 ?_
  refine lv_aload_n hx hb dL_law_963 rfl (lv_at hl 1 rfl) ?_
  refine fw_callSWiN (f := fw_or fc (oC y o gl)) (g := f2) hx hb hml hown hts hE hw hd [.ref (α 0 0 0), .int (xs (nI i + 1).toNatClampNeg), .ref o] [] (c_L_bounce l D (fw_A (fun q => s.heap.size ≤ q) f2) y sa fc hfl α κ nw no nt wk (xs (nI i + 1).toNatClampNeg) hS.2.1 hRc o gl hdo) (vx_cwSW 3 hts gL_law_L_bounce rfl rfl rfl (by decide +kernel) ⟨Nat.le_of_ble_eq_true rfl, Nat.le_of_ble_eq_true rfl⟩) rfl hl.1 rfl (Nat.le_of_ble_eq_true rfl) dL_law_964 ⟨by show cells + 1 ≤ 601024; omega, by show slots + 6 ≤ 7293033; omega⟩ (fun k f3 H locs hp hd3 hw => ?_)
  refine lv_istore (lv' := [(5, .int k), (4, .int (nI i)), (3, .ref o), (2, .ref (β 0)), (1, .ref (α 0 0 0)), (0, .ref b)]) hx hb dL_law_967 hl (by decide) rfl (fun ls hl => ?_)
  rw [fw_or_c hd3] at hw
  refine lv_aload_n hx hb dL_law_969 rfl (lv_at hl 3 rfl) ?_
  refine lv_aload_n hx hb dL_law_970 rfl (lv_at hl 5 rfl) ?_
  refine lv_iload hx hb dL_law_971 (lv_at hl 1 rfl) ?_
  refine lv_iconst (v := 1) hx hb dL_law_973 (by decide) ?_
  refine lv_iadd hx hb dL_law_974 ?_
  refine va_sld hx hb hX hbl hbA hw.2 (vpi (j := 1) (by omega) hL) dL_law_975 ?_
  refine fw_callViN hx hb hml hown hts hE hw hd3.symm [.int (xs (nI i + 1).toNatClampNeg)] [] (c_X9_bounce l D (fw_A (fun q => s.heap.size ≤ q) f3) y sa f2 β μ (xs (nI i + 1).toNatClampNeg) nw wk no nt hS.1 hRm) (cwV 1 hts gL_law_X9_bounce rfl rfl rfl (by decide +kernel) ⟨Nat.le_of_ble_eq_true rfl, Nat.le_of_ble_eq_true rfl⟩) (ci := 9) rfl rfl hRm.o rfl hl.1 rfl (Nat.le_of_ble_eq_true rfl) dL_law_976 ⟨by show cells + 1 + 0 ≤ 601024; omega, by show slots + 6 + 0 ≤ 7293033; omega⟩ (fun bv f4 H locs hp2 hd4 hw => ?_)
  refine W.widen (k := cells + 8) (n := slots + 131) (by omega) (by omega) ?_
  exact lw_tail (off := 420) C0 hE (mt_bounce hS hRc hdo hp hp2) hd4 hw hl ⟨hc1, hc2⟩ dL_law_979 dL_law_981 dL_law_982 dL_law_985 dL_law_987 dL_law_992 dL_law_994 dL_law_997 dL_law_998 dL_law_999 dL_law_1000 dL_law_1002 dL_law_1003 dL_law_1004 dL_law_1009 rfl IH
set_option maxHeartbeats 4000000 in
set_option maxRecDepth 100000 in
/-- case 12 of the law: pot -/
theorem lw_c_pot {p : Program} {e : Env} {s : State} {m : MethodId} {below : List Frame} {meth : Method} {c : Code} {l : Launch} (hfl : l.stackTraces = false) {b L : Nat} {xs : Nat → Int32} {D : va_G} {y : Nat → ClassId} {sa : Nat → Nat} (C0 : lw_At p s m meth c b L xs) (hL : L ≤ 3072) (hE : fw_E D (fun q => s.heap.size ≤ q) y sa s)
    {i o x0 : Nat} {β : Nat → Nat} (hi : i + 6 ≤ L) {f1 f2 : fw_F} (hN : lwI y o x0 β f1 f2) (hd : fw_dis f1 f2) {H : Heap} {locs : List Loc} {ls : Array Slot} (hw : fw_S D (fun q => s.heap.size ≤ q) s.heap (fw_or f1 f2) H locs) (hl : lv_has ls 7 [(4, .int (nI i)), (3, .ref o), (2, .ref (β 0)), (1, .ref x0), (0, .ref b)])
    {cells slots : Nat} (hcr : cells + 8 ≤ 601024 ∧ slots + 131 ≤ 7293033) {Q : State → Prop}
    (IH : ∀ (g1 g2 : fw_F) (H : Heap) (locs : List Loc) (ls : Array Slot), lwI y o x0 β g1 g2 → fw_dis g1 g2 → fw_S D (fun q => s.heap.size ≤ q) s.heap (fw_or g1 g2) H locs → lv_has ls 7 [(4, .int (nI i)), (3, .ref o), (2, .ref (β 0)), (1, .ref x0), (0, .ref b)] → W p l e room_1 s m #[Value.ref b] below meth c H locs (cells + 8) (slots + 131) Q (F0 m 1429 ls [])) :
    W p l e room_1 s m #[Value.ref b] below meth c H locs cells slots Q (F0 m 1012 ls []) := by
  obtain ⟨hx, hb, hr, hml, hown, hts0, hX, hbl, hlocks, hgv⟩ := id C0
  have hown : s.vm.findClass RL = some m.cls := hown
  have hts : ∀ w ∈ wsL_law, w.before #[Value.ref b] s = true := fun w h => hts0 w (wsL_law_in w h)
  have hbA : ¬ (fun q : Nat => s.heap.size ≤ q) b := Nat.not_le.mpr hbl
  obtain ⟨hc1, hc2⟩ := hcr
  obtain ⟨μ, κ, nw, no, nt, wk, α, fc, gl, hS, hRc, rfl, hRm, hdo, rfl⟩ := hN
  refine lv_aload_n hx hb dL_law_1012 rfl (lv_at hl 3 rfl) ?_
  refine lv_aload_n hx hb dL_law_1013 rfl (lv_at hl 4 rfl) ?_
  refine lv_iload hx hb dL_law_1014 (lv_at hl 0 rfl) ?_
  refine lv_iconst (v := 1) hx hb dL_law_1016 (by decide) ?_
  refine lv_iadd hx hb dL_law_1017 ?_
  refine va_sld hx hb hX hbl hbA hw.2 (vpi (j := 1) (by omega) hL) dL_law_1018 ?_
  refine lv_aload_n hx hb dL_law_1019 rfl (lv_at hl 1 rfl) ?_
  refine fw_callSWiN (f := fw_or fc (oC y o gl)) (g := f2) hx hb hml hown hts hE hw hd [.ref (α 0 0 0), .int (xs (nI i + 1).toNatClampNeg), .ref o] [] (c_L_pot l D (fw_A (fun q => s.heap.size ≤ q) f2) y sa fc hfl α κ nw no nt wk (xs (nI i + 1).toNatClampNeg) hS.2.1 hRc o gl hdo) (vx_cwSW 3 hts gL_law_L_pot rfl rfl rfl (by decide +kernel) ⟨Nat.le_of_ble_eq_true rfl, Nat.le_of_ble_eq_true rfl⟩) rfl hl.1 rfl (Nat.le_of_ble_eq_true rfl) dL_law_1020 ⟨by show cells + 1 ≤ 601024; omega, by show slots + 6 ≤ 7293033; omega⟩ (fun k f3 H locs hp hd3 hw => ?_)
  refine lv_istore (lv' := [(5, .int k), (4, .int (nI i)), (3, .ref o), (2, .ref (β 0)), (1, .ref (α 0 0 0)), (0, .ref b)]) hx hb dL_law_1023 hl (by decide) rfl (fun ls hl => ?_)
  rw [fw_or_c hd3] at hw
  refine lv_aload_n hx hb dL_law_1025 rfl (lv_at hl 3 rfl) ?_
  refine lv_aload_n hx hb dL_law_1026 rfl (lv_at hl 5 rfl) ?_
  refine lv_iload hx hb dL_law_1027 (lv_at hl 1 rfl) ?_
  refine lv_iconst (v := 1) hx hb dL_law_1029 (by decide) ?_
  refine lv_iadd hx hb dL_law_1030 ?_
  refine va_sld hx hb hX hbl hbA hw.2 (vpi (j := 1) (by omega) hL) dL_law_1031 ?_
  refine fw_callViN hx hb hml hown hts hE hw hd3.symm [.int (xs (nI i + 1).toNatClampNeg)] [] (c_X9_pot l D (fw_A (fun q => s.heap.size ≤ q) f3) y sa f2 β μ (xs (nI i + 1).toNatClampNeg) hRm) (cwV 1 hts gL_law_X9_pot rfl rfl rfl (by decide +kernel) ⟨Nat.le_of_ble_eq_true rfl, Nat.le_of_ble_eq_true rfl⟩) (ci := 9) rfl rfl hRm.o rfl hl.1 rfl (Nat.le_of_ble_eq_true rfl) dL_law_1032 ⟨by show cells + 1 + 0 ≤ 601024; omega, by show slots + 6 + 0 ≤ 7293033; omega⟩ (fun bv f4 H locs hp2 hd4 hw => ?_)
  refine W.widen (k := cells + 8) (n := slots + 131) (by omega) (by omega) ?_
  exact lw_tail (off := 364) C0 hE (mt_pot hS hRc hdo hp hp2) hd4 hw hl ⟨hc1, hc2⟩ dL_law_1035 dL_law_1037 dL_law_1038 dL_law_1041 dL_law_1043 dL_law_1048 dL_law_1050 dL_law_1053 dL_law_1054 dL_law_1055 dL_law_1056 dL_law_1058 dL_law_1059 dL_law_1060 dL_law_1065 rfl IH
