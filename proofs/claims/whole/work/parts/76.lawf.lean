theorem and31 (v : Int32) : ∃ n, n < 32 ∧ v &&& 31 = nI n := by
  have h : (v &&& 31).toInt = v.toInt % 32 := Jvm.Kit.i32_mask v 31 (k := 5) (by decide) (by decide)
  refine ⟨((v &&& 31).toInt).toNat, by omega, ?_⟩
  apply Int32.toInt_inj.mp
  rw [nI_toInt (by omega)]
  omega
theorem sub6 {L : Nat} (hL : L ≤ 3072) : (Int32.ofNat L - 6).toInt = (L : Int) - 6 := by
  have e6 : (6 : Int32).toInt = 6 := by decide +kernel
  have eL : (Int32.ofNat L).toInt = (L : Int) := nI_toInt (by omega)
  rw [i_sub (by omega) (by omega), eL, e6]
set_option maxHeartbeats 4000000 in
set_option maxRecDepth 100000 in
/-- the law's loop -/
theorem lw_loop {p : Program} {e : Env} {s : State} {m : MethodId} {below : List Frame} {meth : Method} {c : Code} {l : Launch} (hfl : l.stackTraces = false) {b L : Nat} {xs : Nat → Int32} {D : va_G} {y : Nat → ClassId} {sa : Nat → Nat} (C0 : lw_At p s m meth c b L xs) (hL : L ≤ 3072) (hE : fw_E D (fun q => s.heap.size ≤ q) y sa s)
    {i o x0 : Nat} {β : Nat → Nat} (hi : i ≤ L) {f1 f2 : fw_F} (hN : lwI y o x0 β f1 f2) (hd : fw_dis f1 f2) {H : Heap} {locs : List Loc} {ls : Array Slot} (hw : fw_S D (fun q => s.heap.size ≤ q) s.heap (fw_or f1 f2) H locs) (hl : lv_has ls 7 [(4, .int (nI i)), (3, .ref o), (2, .ref (β 0)), (1, .ref x0), (0, .ref b)]) :
    W p l e room_1 s m #[Value.ref b] below meth c H locs (51 + 8 * i) (2642 + 131 * i) (lw_Z below #[Value.ref b] s) (F0 m 23 ls []) := by
  obtain ⟨hx, hb, hr, hml, hown, hts0, hX, hbl, hlocks, hgv⟩ := id C0
  have hbA : ¬ (fun q : Nat => s.heap.size ≤ q) b := Nat.not_le.mpr hbl
  refine fw_loop 23 7 (fun r : Nat × fw_F × fw_F => L + 1 - r.1) (fun r => r.1 ≤ L ∧ lwI y o x0 β r.2.1 r.2.2 ∧ fw_dis r.2.1 r.2.2) (fun r => fw_or r.2.1 r.2.2) (fun r => [(4, .int (nI r.1)), (3, .ref o), (2, .ref (β 0)), (1, .ref x0), (0, .ref b)]) (fun r => []) (fun r => 51 + 8 * r.1) (fun r => 2642 + 131 * r.1) (fun r H locs ls hP hw hl IH => ?_) (i, f1, f2) H locs ls ⟨hi, hN, hd⟩ hw hl
  obtain ⟨i, f1, f2⟩ := r
  obtain ⟨hi, hN, hd⟩ := hP
  dsimp only at hi hN hd hw hl ⊢
  refine lv_iload hx hb dL_law_23 (lv_at hl 0 rfl) ?_
  refine lv_aload_n hx hb dL_law_25 rfl (lv_at hl 4 rfl) ?_
  refine va_slen hx hb hX hbl hbA hw.2 dL_law_26 ?_
  refine lv_bipush (v := 6) hx hb dL_law_27 (by decide) ?_
  refine lv_isub hx hb dL_law_29 ?_
  refine lv_icmp_gt (tgt := 1435) hx hb dL_law_30 (by decide) (fun z => ?_) (fun z => ?_)
  · refine lv_iconst (v := 1) hx hb dL_law_1435 (by decide) ?_
    refine va_forget (fun q hq => hw.2.2.2 q hq) ?_
    refine W.widen (k := 601024) (n := 7293033) (by omega) (by omega) ?_
    exact lw_ret hx hb hr hlocks dL_law_1436
  · have hi6 : i + 6 ≤ L := by
      have z2 : ¬ (Int32.ofNat L - 6).toInt < (nI i).toInt := fun q => z (Int32.lt_iff_toInt_lt.mpr q)
      rw [sub6 hL, nI_toInt (by omega)] at z2
      omega
    have IH2 : ∀ (g1 g2 : fw_F) (H : Heap) (locs : List Loc) (ls : Array Slot), lwI y o x0 β g1 g2 → fw_dis g1 g2 → fw_S D (fun q => s.heap.size ≤ q) s.heap (fw_or g1 g2) H locs → lv_has ls 7 [(4, .int (nI i)), (3, .ref o), (2, .ref (β 0)), (1, .ref x0), (0, .ref b)] → W p l e room_1 s m #[Value.ref b] below meth c H locs (51 + 8 * i + 8) (2642 + 131 * i + 131) (lw_Z below #[Value.ref b] s) (F0 m 1429 ls []) := by
      intro g1 g2 H locs ls a1 a2 a3 a4
      refine lv_iinc (v := nI (i + 6)) (lv' := [(4, .int (nI (i + 6))), (3, .ref o), (2, .ref (β 0)), (1, .ref x0), (0, .ref b)]) hx hb dL_law_1429 a4 (k := 0) rfl (by rw [← nI_add]; rfl) (by decide) rfl (fun ls hl => ?_)
      refine lv_goto (tgt := 23) hx hb dL_law_1432 (by decide) ?_
      refine W.widen (k := 51 + 8 * (i + 6)) (n := 2642 + 131 * (i + 6)) (by omega) (by omega) ?_
      exact IH (i + 6, g1, g2) H locs ls (by dsimp only; omega) ⟨hi6, a1, a2⟩ a3 hl
    have hcr : 51 + 8 * i + 8 ≤ 601024 ∧ 2642 + 131 * i + 131 ≤ 7293033 := ⟨by omega, by omega⟩
    refine lv_aload_n hx hb dL_law_33 rfl (lv_at hl 4 rfl) ?_
    refine lv_iload hx hb dL_law_34 (lv_at hl 0 rfl) ?_
    refine va_sld hx hb hX hbl hbA hw.2 (vp_in_nI (by omega) (by omega)) dL_law_36 ?_
    refine lv_bipush (v := 31) hx hb dL_law_37 (by decide) ?_
    refine lv_iand hx hb dL_law_39 ?_
    obtain ⟨n, hn, en⟩ := and31 (xs (nI i).toNatClampNeg)
    rw [en]
    rcases (show n = 0 ∨ n = 1 ∨ n = 2 ∨ n = 3 ∨ n = 4 ∨ n = 5 ∨ n = 6 ∨ n = 7 ∨ n = 8 ∨ n = 9 ∨ n = 10 ∨ n = 11 ∨ n = 12 ∨ n = 13 ∨ n = 14 ∨ n = 15 ∨ n = 16 ∨ n = 17 ∨ n = 18 ∨ n = 19 ∨ 20 ≤ n by omega) with rfl | rfl | rfl | rfl | rfl | rfl | rfl | rfl | rfl | rfl | rfl | rfl | rfl | rfl | rfl | rfl | rfl | rfl | rfl | rfl | hn20
    · refine lv_tableIn (off := 96) (tgt := 136) hx hb dL_law_40 (by decide +kernel) (by decide +kernel) (by decide +kernel) (by decide) ?_
      exact lw_c_addWorker hfl C0 hL hE hi6 hN hd hw hl hcr IH2
    · refine lv_tableIn (off := 152) (tgt := 192) hx hb dL_law_40 (by decide +kernel) (by decide +kernel) (by decide +kernel) (by decide) ?_
      exact lw_c_setRank hfl C0 hL hE hi6 hN hd hw hl hcr IH2
    · refine lv_tableIn (off := 232) (tgt := 272) hx hb dL_law_40 (by decide +kernel) (by decide +kernel) (by decide +kernel) (by decide) ?_
      exact lw_c_setRates hfl C0 hL hE hi6 hN hd hw hl hcr IH2
    · refine lv_tableIn (off := 324) (tgt := 364) hx hb dL_law_40 (by decide +kernel) (by decide +kernel) (by decide +kernel) (by decide) ?_
      exact lw_c_come hfl C0 hL hE hi6 hN hd hw hl hcr IH2
    · refine lv_tableIn (off := 428) (tgt := 468) hx hb dL_law_40 (by decide +kernel) (by decide +kernel) (by decide +kernel) (by decide) ?_
      exact lw_c_correct hfl C0 hL hE hi6 hN hd hw hl hcr IH2
    · refine lv_tableIn (off := 520) (tgt := 560) hx hb dL_law_40 (by decide +kernel) (by decide +kernel) (by decide +kernel) (by decide) ?_
      exact lw_c_acknowledged hfl C0 hL hE hi6 hN hd hw hl hcr IH2
    · refine lv_tableIn (off := 576) (tgt := 616) hx hb dL_law_40 (by decide +kernel) (by decide +kernel) (by decide +kernel) (by decide) ?_
      exact lw_c_due hfl C0 hL hE hi6 hN hd hw hl hcr IH2
    · refine lv_tableIn (off := 644) (tgt := 684) hx hb dL_law_40 (by decide +kernel) (by decide +kernel) (by decide +kernel) (by decide) ?_
      exact lw_c_order hfl C0 hL hE hi6 hN hd hw hl hcr IH2
    · refine lv_tableIn (off := 736) (tgt := 776) hx hb dL_law_40 (by decide +kernel) (by decide +kernel) (by decide +kernel) (by decide) ?_
      exact lw_c_left hfl C0 hL hE hi6 hN hd hw hl hcr IH2
    · refine lv_tableIn (off := 792) (tgt := 832) hx hb dL_law_40 (by decide +kernel) (by decide +kernel) (by decide +kernel) (by decide) ?_
      exact lw_c_setFloor hfl C0 hL hE hi6 hN hd hw hl hcr IH2
    · refine lv_tableIn (off := 848) (tgt := 888) hx hb dL_law_40 (by decide +kernel) (by decide +kernel) (by decide +kernel) (by decide) ?_
      exact lw_c_fill hfl C0 hL hE hi6 hN hd hw hl hcr IH2
    · refine lv_tableIn (off := 916) (tgt := 956) hx hb dL_law_40 (by decide +kernel) (by decide +kernel) (by decide +kernel) (by decide) ?_
      exact lw_c_bounce hfl C0 hL hE hi6 hN hd hw hl hcr IH2
    · refine lv_tableIn (off := 972) (tgt := 1012) hx hb dL_law_40 (by decide +kernel) (by decide +kernel) (by decide +kernel) (by decide) ?_
      exact lw_c_pot hfl C0 hL hE hi6 hN hd hw hl hcr IH2
    · refine lv_tableIn (off := 1028) (tgt := 1068) hx hb dL_law_40 (by decide +kernel) (by decide +kernel) (by decide +kernel) (by decide) ?_
      exact lw_c_shortage hfl C0 hL hE hi6 hN hd hw hl hcr IH2
    · refine lv_tableIn (off := 1084) (tgt := 1124) hx hb dL_law_40 (by decide +kernel) (by decide +kernel) (by decide +kernel) (by decide) ?_
      exact lw_c_close hfl C0 hL hE hi6 hN hd hw hl hcr IH2
    · refine lv_tableIn (off := 1128) (tgt := 1168) hx hb dL_law_40 (by decide +kernel) (by decide +kernel) (by decide +kernel) (by decide) ?_
      exact lw_c_week hfl C0 hL hE hi6 hN hd hw hl hcr IH2
    · refine lv_tableIn (off := 1141) (tgt := 1181) hx hb dL_law_40 (by decide +kernel) (by decide +kernel) (by decide +kernel) (by decide) ?_
      exact lw_c_slip hfl C0 hL hE hi6 hN hd hw hl hcr IH2
    · refine lv_tableIn (off := 1221) (tgt := 1261) hx hb dL_law_40 (by decide +kernel) (by decide +kernel) (by decide +kernel) (by decide) ?_
      exact lw_c_toTakeBack hfl C0 hL hE hi6 hN hd hw hl hcr IH2
    · refine lv_tableIn (off := 1277) (tgt := 1317) hx hb dL_law_40 (by decide +kernel) (by decide +kernel) (by decide +kernel) (by decide) ?_
      exact lw_c_claim hfl C0 hL hE hi6 hN hd hw hl hcr IH2
    · refine lv_tableIn (off := 1333) (tgt := 1373) hx hb dL_law_40 (by decide +kernel) (by decide +kernel) (by decide +kernel) (by decide) ?_
      exact lw_c_claimBySlips hfl C0 hL hE hi6 hN hd hw hl hcr IH2
    · refine lv_tableOut (tgt := 1429) hx hb dL_law_40 (Or.inr (by rw [nI_toInt (by omega)]; omega)) (by decide) ?_
      refine W.widen (k := 51 + 8 * i + 8) (n := 2642 + 131 * i + 131) (by omega) (by omega) ?_
      exact IH2 f1 f2 H locs ls hN hd hw hl
