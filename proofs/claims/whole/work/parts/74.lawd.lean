set_option maxHeartbeats 4000000 in
set_option maxRecDepth 100000 in
/-- case 13 of the law: shortage -/
theorem lw_c_shortage {p : Program} {e : Env} {s : State} {m : MethodId} {below : List Frame} {meth : Method} {c : Code} {l : Launch} (hfl : l.stackTraces = false) {b L : Nat} {xs : Nat → Int32} {D : va_G} {y : Nat → ClassId} {sa : Nat → Nat} (C0 : lw_At p s m meth c b L xs) (hL : L ≤ 3072) (hE : fw_E D (fun q => s.heap.size ≤ q) y sa s)
    {i o x0 : Nat} {β : Nat → Nat} (hi : i + 6 ≤ L) {f1 f2 : fw_F} (hN : lwI y o x0 β f1 f2) (hd : fw_dis f1 f2) {H : Heap} {locs : List Loc} {ls : Array Slot} (hw : fw_S D (fun q => s.heap.size ≤ q) s.heap (fw_or f1 f2) H locs) (hl : lv_has ls 7 [(4, .int (nI i)), (3, .ref o), (2, .ref (β 0)), (1, .ref x0), (0, .ref b)])
    {cells slots : Nat} (hcr : cells + 8 ≤ 601024 ∧ slots + 131 ≤ 7293033) {Q : State → Prop}
    (IH : ∀ (g1 g2 : fw_F) (H : Heap) (locs : List Loc) (ls : Array Slot), lwI y o x0 β g1 g2 → fw_dis g1 g2 → fw_S D (fun q => s.heap.size ≤ q) s.heap (fw_or g1 g2) H locs → lv_has ls 7 [(4, .int (nI i)), (3, .ref o), (2, .ref (β 0)), (1, .ref x0), (0, .ref b)] → W p l e room_1 s m #[Value.ref b] below meth c H locs (cells + 8) (slots + 131) Q (F0 m 1429 ls [])) :
    W p l e room_1 s m #[Value.ref b] below meth c H locs cells slots Q (F0 m 1068 ls []) := by
  obtain ⟨hx, hb, hr, hml, hown, hts0, hX, hbl, hlocks, hgv⟩ := id C0
  have hown : s.vm.findClass RL = some m.cls := hown
  have hts : ∀ w ∈ wsL_law, w.before #[Value.ref b] s = true := fun w h => hts0 w (wsL_law_in w h)
  have hbA : ¬ (fun q : Nat => s.heap.size ≤ q) b := Nat.not_le.mpr hbl
  obtain ⟨hc1, hc2⟩ := hcr
  obtain ⟨μ, κ, nw, no, nt, wk, α, fc, gl, hS, hRc, rfl, hRm, hdo, rfl⟩ := hN
  refine lv_aload_n hx hb dL_law_1068 rfl (lv_at hl 3 rfl) ?_
  refine lv_aload_n hx hb dL_law_1069 rfl (lv_at hl 4 rfl) ?_
  refine lv_iload hx hb dL_law_1070 (lv_at hl 0 rfl) ?_
  refine lv_iconst (v := 1) hx hb dL_law_1072 (by decide) ?_
  refine lv_iadd hx hb dL_law_1073 ?_
  refine va_sld hx hb hX hbl hbA hw.2 (vpi (j := 1) (by omega) hL) dL_law_1074 ?_
  refine lv_aload_n hx hb dL_law_1075 rfl (lv_at hl 1 rfl) ?_
  refine fw_callSWiN (f := fw_or fc (oC y o gl)) (g := f2) hx hb hml hown hts hE hw hd [.ref (α 0 0 0), .int (xs (nI i + 1).toNatClampNeg), .ref o] [] (c_L_shortage l D (fw_A (fun q => s.heap.size ≤ q) f2) y sa fc hfl α κ nw no nt wk (xs (nI i + 1).toNatClampNeg) hS.2.1 hRc o gl hdo) (vx_cwSW 3 hts gL_law_L_shortage rfl rfl rfl (by decide +kernel) ⟨Nat.le_of_ble_eq_true rfl, Nat.le_of_ble_eq_true rfl⟩) rfl hl.1 rfl (Nat.le_of_ble_eq_true rfl) dL_law_1076 ⟨by show cells + 1 ≤ 601024; omega, by show slots + 6 ≤ 7293033; omega⟩ (fun k f3 H locs hp hd3 hw => ?_)
  refine lv_istore (lv' := [(5, .int k), (4, .int (nI i)), (3, .ref o), (2, .ref (β 0)), (1, .ref (α 0 0 0)), (0, .ref b)]) hx hb dL_law_1079 hl (by decide) rfl (fun ls hl => ?_)
  rw [fw_or_c hd3] at hw
  refine lv_aload_n hx hb dL_law_1081 rfl (lv_at hl 3 rfl) ?_
  refine lv_aload_n hx hb dL_law_1082 rfl (lv_at hl 5 rfl) ?_
  refine lv_iload hx hb dL_law_1083 (lv_at hl 1 rfl) ?_
  refine lv_iconst (v := 1) hx hb dL_law_1085 (by decide) ?_
  refine lv_iadd hx hb dL_law_1086 ?_
  refine va_sld hx hb hX hbl hbA hw.2 (vpi (j := 1) (by omega) hL) dL_law_1087 ?_
  refine fw_callViN hx hb hml hown hts hE hw hd3.symm [.int (xs (nI i + 1).toNatClampNeg)] [] (c_X9_shortage l D (fw_A (fun q => s.heap.size ≤ q) f3) y sa f2 β μ (xs (nI i + 1).toNatClampNeg) hRm) (cwV 1 hts gL_law_X9_shortage rfl rfl rfl (by decide +kernel) ⟨Nat.le_of_ble_eq_true rfl, Nat.le_of_ble_eq_true rfl⟩) (ci := 9) rfl rfl hRm.o rfl hl.1 rfl (Nat.le_of_ble_eq_true rfl) dL_law_1088 ⟨by show cells + 1 + 0 ≤ 601024; omega, by show slots + 6 + 0 ≤ 7293033; omega⟩ (fun bv f4 H locs hp2 hd4 hw => ?_)
  refine W.widen (k := cells + 8) (n := slots + 131) (by omega) (by omega) ?_
  exact lw_tail (off := 308) C0 hE (mt_shortage hS hRc hdo hp hp2) hd4 hw hl ⟨hc1, hc2⟩ dL_law_1091 dL_law_1093 dL_law_1094 dL_law_1097 dL_law_1099 dL_law_1104 dL_law_1106 dL_law_1109 dL_law_1110 dL_law_1111 dL_law_1112 dL_law_1114 dL_law_1115 dL_law_1116 dL_law_1121 rfl IH
set_option maxHeartbeats 4000000 in
set_option maxRecDepth 100000 in
/-- case 14 of the law: close -/
theorem lw_c_close {p : Program} {e : Env} {s : State} {m : MethodId} {below : List Frame} {meth : Method} {c : Code} {l : Launch} (hfl : l.stackTraces = false) {b L : Nat} {xs : Nat → Int32} {D : va_G} {y : Nat → ClassId} {sa : Nat → Nat} (C0 : lw_At p s m meth c b L xs) (hL : L ≤ 3072) (hE : fw_E D (fun q => s.heap.size ≤ q) y sa s)
    {i o x0 : Nat} {β : Nat → Nat} (hi : i + 6 ≤ L) {f1 f2 : fw_F} (hN : lwI y o x0 β f1 f2) (hd : fw_dis f1 f2) {H : Heap} {locs : List Loc} {ls : Array Slot} (hw : fw_S D (fun q => s.heap.size ≤ q) s.heap (fw_or f1 f2) H locs) (hl : lv_has ls 7 [(4, .int (nI i)), (3, .ref o), (2, .ref (β 0)), (1, .ref x0), (0, .ref b)])
    {cells slots : Nat} (hcr : cells + 8 ≤ 601024 ∧ slots + 131 ≤ 7293033) {Q : State → Prop}
    (IH : ∀ (g1 g2 : fw_F) (H : Heap) (locs : List Loc) (ls : Array Slot), lwI y o x0 β g1 g2 → fw_dis g1 g2 → fw_S D (fun q => s.heap.size ≤ q) s.heap (fw_or g1 g2) H locs → lv_has ls 7 [(4, .int (nI i)), (3, .ref o), (2, .ref (β 0)), (1, .ref x0), (0, .ref b)] → W p l e room_1 s m #[Value.ref b] below meth c H locs (cells + 8) (slots + 131) Q (F0 m 1429 ls [])) :
    W p l e room_1 s m #[Value.ref b] below meth c H locs cells slots Q (F0 m 1124 ls []) := by
  obtain ⟨hx, hb, hr, hml, hown, hts0, hX, hbl, hlocks, hgv⟩ := id C0
  have hown : s.vm.findClass RL = some m.cls := hown
  have hts : ∀ w ∈ wsL_law, w.before #[Value.ref b] s = true := fun w h => hts0 w (wsL_law_in w h)
  have hbA : ¬ (fun q : Nat => s.heap.size ≤ q) b := Nat.not_le.mpr hbl
  obtain ⟨hc1, hc2⟩ := hcr
  obtain ⟨μ, κ, nw, no, nt, wk, α, fc, gl, hS, hRc, rfl, hRm, hdo, rfl⟩ := hN
  refine lv_aload_n hx hb dL_law_1124 rfl (lv_at hl 3 rfl) ?_
  refine lv_aload_n hx hb dL_law_1125 rfl (lv_at hl 1 rfl) ?_
  refine fw_callSWiN (f := fw_or fc (oC y o gl)) (g := f2) hx hb hml hown hts hE hw hd [.ref (α 0 0 0), .ref o] [] (c_L_close l D (fw_A (fun q => s.heap.size ≤ q) f2) y sa fc hfl α κ nw no nt wk  (fun hk w hw => (hS.2.2.1 w hw).2.2.2.2.2.2.2.2.2.2.1 wk (Nat.le_refl _) hk) hS.2.1 hRc o gl hdo) (vx_cwSW 2 hts gL_law_L_close rfl rfl rfl (by decide +kernel) ⟨Nat.le_of_ble_eq_true rfl, Nat.le_of_ble_eq_true rfl⟩) rfl hl.1 rfl (Nat.le_of_ble_eq_true rfl) dL_law_1126 ⟨by show cells + 8 ≤ 601024; omega, by show slots + 32 ≤ 7293033; omega⟩ (fun k f3 H locs hp hd3 hw => ?_)
  refine lv_istore (lv' := [(5, .int k), (4, .int (nI i)), (3, .ref o), (2, .ref (β 0)), (1, .ref (α 0 0 0)), (0, .ref b)]) hx hb dL_law_1129 hl (by decide) rfl (fun ls hl => ?_)
  rw [fw_or_c hd3] at hw
  refine lv_aload_n hx hb dL_law_1131 rfl (lv_at hl 3 rfl) ?_
  refine fw_callViN hx hb hml hown hts hE hw hd3.symm [] [] (c_X9_close l D (fw_A (fun q => s.heap.size ≤ q) f3) y sa f2 β μ  nw wk no nt hS.1 hRm) (cwV 0 hts gL_law_X9_close rfl rfl rfl (by decide +kernel) ⟨Nat.le_of_ble_eq_true rfl, Nat.le_of_ble_eq_true rfl⟩) (ci := 9) rfl rfl hRm.o rfl hl.1 rfl (Nat.le_of_ble_eq_true rfl) dL_law_1132 ⟨by show cells + 8 + 0 ≤ 601024; omega, by show slots + 32 + 0 ≤ 7293033; omega⟩ (fun bv f4 H locs hp2 hd4 hw => ?_)
  refine W.widen (k := cells + 8) (n := slots + 131) (by omega) (by omega) ?_
  exact lw_tail (off := 264) C0 hE (mt_close hS hRc hdo hp hp2) hd4 hw hl ⟨hc1, hc2⟩ dL_law_1135 dL_law_1137 dL_law_1138 dL_law_1141 dL_law_1143 dL_law_1148 dL_law_1150 dL_law_1153 dL_law_1154 dL_law_1155 dL_law_1156 dL_law_1158 dL_law_1159 dL_law_1160 dL_law_1165 rfl IH
set_option maxHeartbeats 4000000 in
set_option maxRecDepth 100000 in
/-- case 16 of the law: slip -/
theorem lw_c_slip {p : Program} {e : Env} {s : State} {m : MethodId} {below : List Frame} {meth : Method} {c : Code} {l : Launch} (hfl : l.stackTraces = false) {b L : Nat} {xs : Nat → Int32} {D : va_G} {y : Nat → ClassId} {sa : Nat → Nat} (C0 : lw_At p s m meth c b L xs) (hL : L ≤ 3072) (hE : fw_E D (fun q => s.heap.size ≤ q) y sa s)
    {i o x0 : Nat} {β : Nat → Nat} (hi : i + 6 ≤ L) {f1 f2 : fw_F} (hN : lwI y o x0 β f1 f2) (hd : fw_dis f1 f2) {H : Heap} {locs : List Loc} {ls : Array Slot} (hw : fw_S D (fun q => s.heap.size ≤ q) s.heap (fw_or f1 f2) H locs) (hl : lv_has ls 7 [(4, .int (nI i)), (3, .ref o), (2, .ref (β 0)), (1, .ref x0), (0, .ref b)])
    {cells slots : Nat} (hcr : cells + 8 ≤ 601024 ∧ slots + 131 ≤ 7293033) {Q : State → Prop}
    (IH : ∀ (g1 g2 : fw_F) (H : Heap) (locs : List Loc) (ls : Array Slot), lwI y o x0 β g1 g2 → fw_dis g1 g2 → fw_S D (fun q => s.heap.size ≤ q) s.heap (fw_or g1 g2) H locs → lv_has ls 7 [(4, .int (nI i)), (3, .ref o), (2, .ref (β 0)), (1, .ref x0), (0, .ref b)] → W p l e room_1 s m #[Value.ref b] below meth c H locs (cells + 8) (slots + 131) Q (F0 m 1429 ls [])) :
    W p l e room_1 s m #[Value.ref b] below meth c H locs cells slots Q (F0 m 1181 ls []) := by
  obtain ⟨hx, hb, hr, hml, hown, hts0, hX, hbl, hlocks, hgv⟩ := id C0
  have hown : s.vm.findClass RL = some m.cls := hown
  have hts : ∀ w ∈ wsL_law, w.before #[Value.ref b] s = true := fun w h => hts0 w (wsL_law_in w h)
  have hbA : ¬ (fun q : Nat => s.heap.size ≤ q) b := Nat.not_le.mpr hbl
  obtain ⟨hc1, hc2⟩ := hcr
  obtain ⟨μ, κ, nw, no, nt, wk, α, fc, gl, hS, hRc, rfl, hRm, hdo, rfl⟩ := hN
  refine lv_aload_n hx hb dL_law_1181 rfl (lv_at hl 3 rfl) ?_
  refine lv_aload_n hx hb dL_law_1182 rfl (lv_at hl 4 rfl) ?_
  refine lv_iload hx hb dL_law_1183 (lv_at hl 0 rfl) ?_
  refine lv_iconst (v := 1) hx hb dL_law_1185 (by decide) ?_
  refine lv_iadd hx hb dL_law_1186 ?_
  refine va_sld hx hb hX hbl hbA hw.2 (vpi (j := 1) (by omega) hL) dL_law_1187 ?_
  refine lv_aload_n hx hb dL_law_1188 rfl (lv_at hl 4 rfl) ?_
  refine lv_iload hx hb dL_law_1189 (lv_at hl 0 rfl) ?_
  refine lv_iconst (v := 2) hx hb dL_law_1191 (by decide) ?_
  refine lv_iadd hx hb dL_law_1192 ?_
  refine va_sld hx hb hX hbl hbA hw.2 (vpi (j := 2) (by omega) hL) dL_law_1193 ?_
  refine lv_aload_n hx hb dL_law_1194 rfl (lv_at hl 4 rfl) ?_
  refine lv_iload hx hb dL_law_1195 (lv_at hl 0 rfl) ?_
  refine lv_iconst (v := 3) hx hb dL_law_1197 (by decide) ?_
  refine lv_iadd hx hb dL_law_1198 ?_
  refine va_sld hx hb hX hbl hbA hw.2 (vpi (j := 3) (by omega) hL) dL_law_1199 ?_
  refine lv_aload_n hx hb dL_law_1200 rfl (lv_at hl 1 rfl) ?_
  refine fw_callSWiN (f := fw_or fc (oC y o gl)) (g := f2) hx hb hml hown hts hE hw hd [.ref (α 0 0 0), .int (xs (nI i + 1).toNatClampNeg), .int (xs (nI i + 2).toNatClampNeg), .int (xs (nI i + 3).toNatClampNeg), .ref o] [] (c_L_slip l D (fw_A (fun q => s.heap.size ≤ q) f2) y sa fc hfl α κ nw no nt wk (xs (nI i + 1).toNatClampNeg) (xs (nI i + 2).toNatClampNeg) (xs (nI i + 3).toNatClampNeg) hS.2.1 hRc o gl hdo) (vx_cwSW 5 hts gL_law_L_slip rfl rfl rfl (by decide +kernel) ⟨Nat.le_of_ble_eq_true rfl, Nat.le_of_ble_eq_true rfl⟩) rfl hl.1 rfl (Nat.le_of_ble_eq_true rfl) dL_law_1201 ⟨by show cells + 3 ≤ 601024; omega, by show slots + 18 ≤ 7293033; omega⟩ (fun k f3 H locs hp hd3 hw => ?_)
  refine lv_istore (lv' := [(5, .int k), (4, .int (nI i)), (3, .ref o), (2, .ref (β 0)), (1, .ref (α 0 0 0)), (0, .ref b)]) hx hb dL_law_1204 hl (by decide) rfl (fun ls hl => ?_)
  rw [fw_or_c hd3] at hw
  refine lv_aload_n hx hb dL_law_1206 rfl (lv_at hl 3 rfl) ?_
  refine lv_aload_n hx hb dL_law_1207 rfl (lv_at hl 5 rfl) ?_
  refine lv_iload hx hb dL_law_1208 (lv_at hl 1 rfl) ?_
  refine lv_iconst (v := 1) hx hb dL_law_1210 (by decide) ?_
  refine lv_iadd hx hb dL_law_1211 ?_
  refine va_sld hx hb hX hbl hbA hw.2 (vpi (j := 1) (by omega) hL) dL_law_1212 ?_
  refine lv_aload_n hx hb dL_law_1213 rfl (lv_at hl 5 rfl) ?_
  refine lv_iload hx hb dL_law_1214 (lv_at hl 1 rfl) ?_
  refine lv_iconst (v := 2) hx hb dL_law_1216 (by decide) ?_
  refine lv_iadd hx hb dL_law_1217 ?_
  refine va_sld hx hb hX hbl hbA hw.2 (vpi (j := 2) (by omega) hL) dL_law_1218 ?_
  refine lv_aload_n hx hb dL_law_1219 rfl (lv_at hl 5 rfl) ?_
  refine lv_iload hx hb dL_law_1220 (lv_at hl 1 rfl) ?_
  refine lv_iconst (v := 3) hx hb dL_law_1222 (by decide) ?_
  refine lv_iadd hx hb dL_law_1223 ?_
  refine va_sld hx hb hX hbl hbA hw.2 (vpi (j := 3) (by omega) hL) dL_law_1224 ?_
  refine fw_callViN hx hb hml hown hts hE hw hd3.symm [.int (xs (nI i + 1).toNatClampNeg), .int (xs (nI i + 2).toNatClampNeg), .int (xs (nI i + 3).toNatClampNeg)] [] (c_X9_slip l D (fw_A (fun q => s.heap.size ≤ q) f3) y sa f2 β μ (xs (nI i + 1).toNatClampNeg) (xs (nI i + 2).toNatClampNeg) (xs (nI i + 3).toNatClampNeg) nw wk no nt hS.1 hRm) (cwV 3 hts gL_law_X9_slip rfl rfl rfl (by decide +kernel) ⟨Nat.le_of_ble_eq_true rfl, Nat.le_of_ble_eq_true rfl⟩) (ci := 9) rfl rfl hRm.o rfl hl.1 rfl (Nat.le_of_ble_eq_true rfl) dL_law_1225 ⟨by show cells + 3 + 0 ≤ 601024; omega, by show slots + 18 + 0 ≤ 7293033; omega⟩ (fun bv f4 H locs hp2 hd4 hw => ?_)
  refine W.widen (k := cells + 8) (n := slots + 131) (by omega) (by omega) ?_
  exact lw_tail (off := 171) C0 hE (mt_slip hS hRc hdo hp hp2) hd4 hw hl ⟨hc1, hc2⟩ dL_law_1228 dL_law_1230 dL_law_1231 dL_law_1234 dL_law_1236 dL_law_1241 dL_law_1243 dL_law_1246 dL_law_1247 dL_law_1248 dL_law_1249 dL_law_1251 dL_law_1252 dL_law_1253 dL_law_1258 rfl IH
set_option maxHeartbeats 4000000 in
set_option maxRecDepth 100000 in
/-- case 17 of the law: toTakeBack -/
theorem lw_c_toTakeBack {p : Program} {e : Env} {s : State} {m : MethodId} {below : List Frame} {meth : Method} {c : Code} {l : Launch} (hfl : l.stackTraces = false) {b L : Nat} {xs : Nat → Int32} {D : va_G} {y : Nat → ClassId} {sa : Nat → Nat} (C0 : lw_At p s m meth c b L xs) (hL : L ≤ 3072) (hE : fw_E D (fun q => s.heap.size ≤ q) y sa s)
    {i o x0 : Nat} {β : Nat → Nat} (hi : i + 6 ≤ L) {f1 f2 : fw_F} (hN : lwI y o x0 β f1 f2) (hd : fw_dis f1 f2) {H : Heap} {locs : List Loc} {ls : Array Slot} (hw : fw_S D (fun q => s.heap.size ≤ q) s.heap (fw_or f1 f2) H locs) (hl : lv_has ls 7 [(4, .int (nI i)), (3, .ref o), (2, .ref (β 0)), (1, .ref x0), (0, .ref b)])
    {cells slots : Nat} (hcr : cells + 8 ≤ 601024 ∧ slots + 131 ≤ 7293033) {Q : State → Prop}
    (IH : ∀ (g1 g2 : fw_F) (H : Heap) (locs : List Loc) (ls : Array Slot), lwI y o x0 β g1 g2 → fw_dis g1 g2 → fw_S D (fun q => s.heap.size ≤ q) s.heap (fw_or g1 g2) H locs → lv_has ls 7 [(4, .int (nI i)), (3, .ref o), (2, .ref (β 0)), (1, .ref x0), (0, .ref b)] → W p l e room_1 s m #[Value.ref b] below meth c H locs (cells + 8) (slots + 131) Q (F0 m 1429 ls [])) :
    W p l e room_1 s m #[Value.ref b] below meth c H locs cells slots Q (F0 m 1261 ls []) := by
  obtain ⟨hx, hb, hr, hml, hown, hts0, hX, hbl, hlocks, hgv⟩ := id C0
  have hown : s.vm.findClass RL = some m.cls := hown
  have hts : ∀ w ∈ wsL_law, w.before #[Value.ref b] s = true := fun w h => hts0 w (wsL_law_in w h)
  have hbA : ¬ (fun q : Nat => s.heap.size ≤ q) b := Nat.not_le.mpr hbl
  obtain ⟨hc1, hc2⟩ := hcr
  obtain ⟨μ, κ, nw, no, nt, wk, α, fc, gl, hS, hRc, rfl, hRm, hdo, rfl⟩ := hN
  refine lv_aload_n hx hb dL_law_1261 rfl (lv_at hl 3 rfl) ?_
  refine lv_aload_n hx hb dL_law_1262 rfl (lv_at hl 4 rfl) ?_
  refine lv_iload hx hb dL_law_1263 (lv_at hl 0 rfl) ?_
  refine lv_iconst (v := 1) hx hb dL_law_1265 (by decide) ?_
  refine lv_iadd hx hb dL_law_1266 ?_
  refine va_sld hx hb hX hbl hbA hw.2 (vpi (j := 1) (by omega) hL) dL_law_1267 ?_
  refine lv_aload_n hx hb dL_law_1268 rfl (lv_at hl 1 rfl) ?_
  refine fw_callSWiN (f := fw_or fc (oC y o gl)) (g := f2) hx hb hml hown hts hE hw hd [.ref (α 0 0 0), .int (xs (nI i + 1).toNatClampNeg), .ref o] [] (c_L_toTakeBack l D (fw_A (fun q => s.heap.size ≤ q) f2) y sa fc hfl α κ nw no nt wk (xs (nI i + 1).toNatClampNeg) hS.2.1 hRc o gl hdo) (vx_cwSW 3 hts gL_law_L_toTakeBack rfl rfl rfl (by decide +kernel) ⟨Nat.le_of_ble_eq_true rfl, Nat.le_of_ble_eq_true rfl⟩) rfl hl.1 rfl (Nat.le_of_ble_eq_true rfl) dL_law_1269 ⟨by show cells + 1 ≤ 601024; omega, by show slots + 6 ≤ 7293033; omega⟩ (fun k f3 H locs hp hd3 hw => ?_)
  refine lv_istore (lv' := [(5, .int k), (4, .int (nI i)), (3, .ref o), (2, .ref (β 0)), (1, .ref (α 0 0 0)), (0, .ref b)]) hx hb dL_law_1272 hl (by decide) rfl (fun ls hl => ?_)
  rw [fw_or_c hd3] at hw
  refine lv_aload_n hx hb dL_law_1274 rfl (lv_at hl 3 rfl) ?_
  refine lv_aload_n hx hb dL_law_1275 rfl (lv_at hl 5 rfl) ?_
  refine lv_iload hx hb dL_law_1276 (lv_at hl 1 rfl) ?_
  refine lv_iconst (v := 1) hx hb dL_law_1278 (by decide) ?_
  refine lv_iadd hx hb dL_law_1279 ?_
  refine va_sld hx hb hX hbl hbA hw.2 (vpi (j := 1) (by omega) hL) dL_law_1280 ?_
  refine fw_callViN hx hb hml hown hts hE hw hd3.symm [.int (xs (nI i + 1).toNatClampNeg)] [] (c_X9_toTakeBack l D (fw_A (fun q => s.heap.size ≤ q) f3) y sa f2 β μ (xs (nI i + 1).toNatClampNeg) nw wk no nt hS.1 hRm) (cwV 1 hts gL_law_X9_toTakeBack rfl rfl rfl (by decide +kernel) ⟨Nat.le_of_ble_eq_true rfl, Nat.le_of_ble_eq_true rfl⟩) (ci := 9) rfl rfl hRm.o rfl hl.1 rfl (Nat.le_of_ble_eq_true rfl) dL_law_1281 ⟨by show cells + 1 + 0 ≤ 601024; omega, by show slots + 6 + 0 ≤ 7293033; omega⟩ (fun bv f4 H locs hp2 hd4 hw => ?_)
  refine W.widen (k := cells + 8) (n := slots + 131) (by omega) (by omega) ?_
  exact lw_tail (off := 115) C0 hE (mt_toTakeBack hS hRc hdo hp hp2) hd4 hw hl ⟨hc1, hc2⟩ dL_law_1284 dL_law_1286 dL_law_1287 dL_law_1290 dL_law_1292 dL_law_1297 dL_law_1299 dL_law_1302 dL_law_1303 dL_law_1304 dL_law_1305 dL_law_1307 dL_law_1308 dL_law_1309 dL_law_1314 rfl IH
set_option maxHeartbeats 4000000 in
set_option maxRecDepth 100000 in
/-- case 18 of the law: claim -/
theorem lw_c_claim {p : Program} {e : Env} {s : State} {m : MethodId} {below : List Frame} {meth : Method} {c : Code} {l : Launch} (hfl : l.stackTraces = false) {b L : Nat} {xs : Nat → Int32} {D : va_G} {y : Nat → ClassId} {sa : Nat → Nat} (C0 : lw_At p s m meth c b L xs) (hL : L ≤ 3072) (hE : fw_E D (fun q => s.heap.size ≤ q) y sa s)
    {i o x0 : Nat} {β : Nat → Nat} (hi : i + 6 ≤ L) {f1 f2 : fw_F} (hN : lwI y o x0 β f1 f2) (hd : fw_dis f1 f2) {H : Heap} {locs : List Loc} {ls : Array Slot} (hw : fw_S D (fun q => s.heap.size ≤ q) s.heap (fw_or f1 f2) H locs) (hl : lv_has ls 7 [(4, .int (nI i)), (3, .ref o), (2, .ref (β 0)), (1, .ref x0), (0, .ref b)])
    {cells slots : Nat} (hcr : cells + 8 ≤ 601024 ∧ slots + 131 ≤ 7293033) {Q : State → Prop}
    (IH : ∀ (g1 g2 : fw_F) (H : Heap) (locs : List Loc) (ls : Array Slot), lwI y o x0 β g1 g2 → fw_dis g1 g2 → fw_S D (fun q => s.heap.size ≤ q) s.heap (fw_or g1 g2) H locs → lv_has ls 7 [(4, .int (nI i)), (3, .ref o), (2, .ref (β 0)), (1, .ref x0), (0, .ref b)] → W p l e room_1 s m #[Value.ref b] below meth c H locs (cells + 8) (slots + 131) Q (F0 m 1429 ls [])) :
    W p l e room_1 s m #[Value.ref b] below meth c H locs cells slots Q (F0 m 1317 ls []) := by
  obtain ⟨hx, hb, hr, hml, hown, hts0, hX, hbl, hlocks, hgv⟩ := id C0
  have hown : s.vm.findClass RL = some m.cls := hown
  have hts : ∀ w ∈ wsL_law, w.before #[Value.ref b] s = true := fun w h => hts0 w (wsL_law_in w h)
  have hbA : ¬ (fun q : Nat => s.heap.size ≤ q) b := Nat.not_le.mpr hbl
  obtain ⟨hc1, hc2⟩ := hcr
  obtain ⟨μ, κ, nw, no, nt, wk, α, fc, gl, hS, hRc, rfl, hRm, hdo, rfl⟩ := hN
  refine lv_aload_n hx hb dL_law_1317 rfl (lv_at hl 3 rfl) ?_
  refine lv_aload_n hx hb dL_law_1318 rfl (lv_at hl 4 rfl) ?_
  refine lv_iload hx hb dL_law_1319 (lv_at hl 0 rfl) ?_
  refine lv_iconst (v := 1) hx hb dL_law_1321 (by decide) ?_
  refine lv_iadd hx hb dL_law_1322 ?_
  refine va_sld hx hb hX hbl hbA hw.2 (vpi (j := 1) (by omega) hL) dL_law_1323 ?_
  refine lv_aload_n hx hb dL_law_1324 rfl (lv_at hl 1 rfl) ?_
  refine fw_callSWiN (f := fw_or fc (oC y o gl)) (g := f2) hx hb hml hown hts hE hw hd [.ref (α 0 0 0), .int (xs (nI i + 1).toNatClampNeg), .ref o] [] (c_L_claim l D (fw_A (fun q => s.heap.size ≤ q) f2) y sa fc hfl α κ nw no nt wk (xs (nI i + 1).toNatClampNeg) hS.2.1 hRc o gl hdo) (vx_cwSW 3 hts gL_law_L_claim rfl rfl rfl (by decide +kernel) ⟨Nat.le_of_ble_eq_true rfl, Nat.le_of_ble_eq_true rfl⟩) rfl hl.1 rfl (Nat.le_of_ble_eq_true rfl) dL_law_1325 ⟨by show cells + 1 ≤ 601024; omega, by show slots + 6 ≤ 7293033; omega⟩ (fun k f3 H locs hp hd3 hw => ?_)
  refine lv_istore (lv' := [(5, .int k), (4, .int (nI i)), (3, .ref o), (2, .ref (β 0)), (1, .ref (α 0 0 0)), (0, .ref b)]) hx hb dL_law_1328 hl (by decide) rfl (fun ls hl => ?_)
  rw [fw_or_c hd3] at hw
  refine lv_aload_n hx hb dL_law_1330 rfl (lv_at hl 3 rfl) ?_
  refine lv_aload_n hx hb dL_law_1331 rfl (lv_at hl 5 rfl) ?_
  refine lv_iload hx hb dL_law_1332 (lv_at hl 1 rfl) ?_
  refine lv_iconst (v := 1) hx hb dL_law_1334 (by decide) ?_
  refine lv_iadd hx hb dL_law_1335 ?_
  refine va_sld hx hb hX hbl hbA hw.2 (vpi (j := 1) (by omega) hL) dL_law_1336 ?_
  refine fw_callViN hx hb hml hown hts hE hw hd3.symm [.int (xs (nI i + 1).toNatClampNeg)] [] (c_X9_claim l D (fw_A (fun q => s.heap.size ≤ q) f3) y sa f2 β μ (xs (nI i + 1).toNatClampNeg) nw wk no nt hS.1 hRm) (cwV 1 hts gL_law_X9_claim rfl rfl rfl (by decide +kernel) ⟨Nat.le_of_ble_eq_true rfl, Nat.le_of_ble_eq_true rfl⟩) (ci := 9) rfl rfl hRm.o rfl hl.1 rfl (Nat.le_of_ble_eq_true rfl) dL_law_1337 ⟨by show cells + 1 + 0 ≤ 601024; omega, by show slots + 6 + 0 ≤ 7293033; omega⟩ (fun bv f4 H locs hp2 hd4 hw => ?_)
  refine W.widen (k := cells + 8) (n := slots + 131) (by omega) (by omega) ?_
  exact lw_tail (off := 59) C0 hE (mt_claim hS hRc hdo hp hp2) hd4 hw hl ⟨hc1, hc2⟩ dL_law_1340 dL_law_1342 dL_law_1343 dL_law_1346 dL_law_1348 dL_law_1353 dL_law_1355 dL_law_1358 dL_law_1359 dL_law_1360 dL_law_1361 dL_law_1363 dL_law_1364 dL_law_1365 dL_law_1370 rfl IH
set_option maxHeartbeats 4000000 in
set_option maxRecDepth 100000 in
/-- case 19 of the law: claimBySlips -/
theorem lw_c_claimBySlips {p : Program} {e : Env} {s : State} {m : MethodId} {below : List Frame} {meth : Method} {c : Code} {l : Launch} (hfl : l.stackTraces = false) {b L : Nat} {xs : Nat → Int32} {D : va_G} {y : Nat → ClassId} {sa : Nat → Nat} (C0 : lw_At p s m meth c b L xs) (hL : L ≤ 3072) (hE : fw_E D (fun q => s.heap.size ≤ q) y sa s)
    {i o x0 : Nat} {β : Nat → Nat} (hi : i + 6 ≤ L) {f1 f2 : fw_F} (hN : lwI y o x0 β f1 f2) (hd : fw_dis f1 f2) {H : Heap} {locs : List Loc} {ls : Array Slot} (hw : fw_S D (fun q => s.heap.size ≤ q) s.heap (fw_or f1 f2) H locs) (hl : lv_has ls 7 [(4, .int (nI i)), (3, .ref o), (2, .ref (β 0)), (1, .ref x0), (0, .ref b)])
    {cells slots : Nat} (hcr : cells + 8 ≤ 601024 ∧ slots + 131 ≤ 7293033) {Q : State → Prop}
    (IH : ∀ (g1 g2 : fw_F) (H : Heap) (locs : List Loc) (ls : Array Slot), lwI y o x0 β g1 g2 → fw_dis g1 g2 → fw_S D (fun q => s.heap.size ≤ q) s.heap (fw_or g1 g2) H locs → lv_has ls 7 [(4, .int (nI i)), (3, .ref o), (2, .ref (β 0)), (1, .ref x0), (0, .ref b)] → W p l e room_1 s m #[Value.ref b] below meth c H locs (cells + 8) (slots + 131) Q (F0 m 1429 ls [])) :
    W p l e room_1 s m #[Value.ref b] below meth c H locs cells slots Q (F0 m 1373 ls []) := by
  obtain ⟨hx, hb, hr, hml, hown, hts0, hX, hbl, hlocks, hgv⟩ := id C0
  have hown : s.vm.findClass RL = some m.cls := hown
  have hts : ∀ w ∈ wsL_law, w.before #[Value.ref b] s = true := fun w h => hts0 w (wsL_law_in w h)
  have hbA : ¬ (fun q : Nat => s.heap.size ≤ q) b := Nat.not_le.mpr hbl
  obtain ⟨hc1, hc2⟩ := hcr
  obtain ⟨μ, κ, nw, no, nt, wk, α, fc, gl, hS, hRc, rfl, hRm, hdo, rfl⟩ := hN
  refine lv_aload_n hx hb dL_law_1373 rfl (lv_at hl 3 rfl) ?_
  refine lv_aload_n hx hb dL_law_1374 rfl (lv_at hl 4 rfl) ?_
  refine lv_iload hx hb dL_law_1375 (lv_at hl 0 rfl) ?_
  refine lv_iconst (v := 1) hx hb dL_law_1377 (by decide) ?_
  refine lv_iadd hx hb dL_law_1378 ?_
  refine va_sld hx hb hX hbl hbA hw.2 (vpi (j := 1) (by omega) hL) dL_law_1379 ?_
  refine lv_aload_n hx hb dL_law_1380 rfl (lv_at hl 1 rfl) ?_
  refine fw_callSWiN (f := fw_or fc (oC y o gl)) (g := f2) hx hb hml hown hts hE hw hd [.ref (α 0 0 0), .int (xs (nI i + 1).toNatClampNeg), .ref o] [] (c_L_claimBySlips l D (fw_A (fun q => s.heap.size ≤ q) f2) y sa fc hfl α κ nw no nt wk (xs (nI i + 1).toNatClampNeg) hS.2.1 hRc o gl hdo) (vx_cwSW 3 hts gL_law_L_claimBySlips rfl rfl rfl (by decide +kernel) ⟨Nat.le_of_ble_eq_true rfl, Nat.le_of_ble_eq_true rfl⟩) rfl hl.1 rfl (Nat.le_of_ble_eq_true rfl) dL_law_1381 ⟨by show cells + 1 ≤ 601024; omega, by show slots + 6 ≤ 7293033; omega⟩ (fun k f3 H locs hp hd3 hw => ?_)
  refine lv_istore (lv' := [(5, .int k), (4, .int (nI i)), (3, .ref o), (2, .ref (β 0)), (1, .ref (α 0 0 0)), (0, .ref b)]) hx hb dL_law_1384 hl (by decide) rfl (fun ls hl => ?_)
  rw [fw_or_c hd3] at hw
  refine lv_aload_n hx hb dL_law_1386 rfl (lv_at hl 3 rfl) ?_
  refine lv_aload_n hx hb dL_law_1387 rfl (lv_at hl 5 rfl) ?_
  refine lv_iload hx hb dL_law_1388 (lv_at hl 1 rfl) ?_
  refine lv_iconst (v := 1) hx hb dL_law_1390 (by decide) ?_
  refine lv_iadd hx hb dL_law_1391 ?_
  refine va_sld hx hb hX hbl hbA hw.2 (vpi (j := 1) (by omega) hL) dL_law_1392 ?_
  refine fw_callViN hx hb hml hown hts hE hw hd3.symm [.int (xs (nI i + 1).toNatClampNeg)] [] (c_X9_claimBySlips l D (fw_A (fun q => s.heap.size ≤ q) f3) y sa f2 β μ (xs (nI i + 1).toNatClampNeg) nw wk no nt hS.1 hRm) (cwV 1 hts gL_law_X9_claimBySlips rfl rfl rfl (by decide +kernel) ⟨Nat.le_of_ble_eq_true rfl, Nat.le_of_ble_eq_true rfl⟩) (ci := 9) rfl rfl hRm.o rfl hl.1 rfl (Nat.le_of_ble_eq_true rfl) dL_law_1393 ⟨by show cells + 1 + 0 ≤ 601024; omega, by show slots + 6 + 0 ≤ 7293033; omega⟩ (fun bv f4 H locs hp2 hd4 hw => ?_)
  refine W.widen (k := cells + 8) (n := slots + 131) (by omega) (by omega) ?_
  exact lw_tail (off := 3) C0 hE (mt_claimBySlips hS hRc hdo hp hp2) hd4 hw hl ⟨hc1, hc2⟩ dL_law_1396 dL_law_1398 dL_law_1399 dL_law_1402 dL_law_1404 dL_law_1409 dL_law_1411 dL_law_1414 dL_law_1415 dL_law_1416 dL_law_1417 dL_law_1419 dL_law_1420 dL_law_1421 dL_law_1426 rfl IH
