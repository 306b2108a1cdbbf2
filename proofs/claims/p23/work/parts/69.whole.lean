def LwT (y : Nat → ClassId) (x z i : Nat) (S : pS) (h : fw_F) : Prop := J S ∧ S.1 = i ∧ two y S x z h
set_option maxHeartbeats 4000000 in
set_option maxRecDepth 100000 in
theorem lw_21 {p : Program} {e : Env} {s : State} {m : MethodId} {below : List Frame} {meth : Method} {c : Code} {l : Launch} {b L : Nat} {xs : Nat → Int32} {D : va_G} {y : Nat → ClassId} {sa : Nat → Nat} (hfl : l.stackTraces = false) (C0 : lw_At p s m meth c b L xs) (hL : L ≤ 260) (hE : fw_E D (fun q => s.heap.size ≤ q) y sa s) {x z : Nat} {i : Nat} (hi : i < 3) (n nS : Nat) (hn : n + 16 ≤ 663013) (hs : nS + 262 ≤ 7112659)
    (k : ∀ (S : pS) (h : fw_F) (H : Heap) (locs : List Loc) (ls : Array Slot), LwT y x z (i + 1) S h → fw_S D (fun q => s.heap.size ≤ q) s.heap h H locs → lv_has ls 7 [(4, .int (nI (i + 1))), (3, .int 1), (0, .ref b), (1, .ref x), (2, .ref z)] → W p l e room_1 s m #[Value.ref b] below meth c H locs (n + 16) (nS + 262) (lw_Z below #[Value.ref b] s) (F0 m 21 ls [])) :
    ∀ (S : pS) (h : fw_F) (H : Heap) (locs : List Loc) (ls : Array Slot), LwT y x z i S h → fw_S D (fun q => s.heap.size ≤ q) s.heap h H locs → lv_has ls 7 [(4, .int (nI i)), (3, .int 1), (0, .ref b), (1, .ref x), (2, .ref z)] → W p l e room_1 s m #[Value.ref b] below meth c H locs n nS (lw_Z below #[Value.ref b] s) (F0 m 21 ls []) := by
  obtain ⟨hx, hb, hr, hml, hown, hts0, hX, hbl, hlocks, hgv⟩ := id C0
  have hown : s.vm.findClass RL = some m.cls := hown
  have hts : ∀ w ∈ wsL_law, w.before #[Value.ref b] s = true := fun w h => hts0 w (wsL_law_in w h)
  intro S h H locs ls hQ hw hl
  obtain ⟨hJ, h3, α, β, f, g, hα, hβ, hR, hG, hd, rfl⟩ := hQ
  have hI := hJ.1
  have hN := hJ.nS
  have hH : RH y S α (fw_or f g) := RH.l hR hd
  have hH2 : RH y S β (fw_or f g) := RH.r hG hd
  have hl : lv_has ls 7 [(4, .int (nI i)), (3, .int 1), (0, .ref b), (1, .ref (α 0 0 0)), (2, .ref (β 0 0 0))] := by rw [hα, hβ]; exact hl
  have hbA : ¬ (fun q => s.heap.size ≤ q) b := Nat.not_le.mpr hbl
  refine lv_iload hx hb dL_law_21 (lv_at hl 0 rfl) ?_
  refine lv_iconst (v := 3) hx hb dL_law_23 (by decide) ?_
  refine lv_icmp_ge (tgt := 85) hx hb dL_law_24 (by decide) (fun c_1 => absurd c_1 (nI_ge hi (by decide))) (fun _ => ?_)
  refine lv_aload_n hx hb dL_law_27 rfl (lv_at hl 2 rfl) ?_
  refine lv_iload hx hb dL_law_28 (lv_at hl 0 rfl) ?_
  refine fw_callCell (k := i) hx hb hml hown hts hw hX hbl hbA hL (by omega) [] (va_cwS 2 hts gL_law_L_cell rfl rfl rfl (by decide +kernel) ⟨Nat.le_of_ble_eq_true rfl, Nat.le_of_ble_eq_true rfl⟩) hl.1 (Nat.le_of_ble_eq_true rfl) dL_law_30 ⟨by show n + 0 ≤ 663013; omega, by show nS + 0 ≤ 7112659; omega⟩ (fun r2 H locs hw => ?_)
  refine lv_iconst (v := 3) hx hb dL_law_33 (by decide) ?_
  refine fw_callSi hx hb hml hown hts hE hw [.int r2, .int 3] [] (c_L_low l D _ y sa _ r2 3 (by decide)) (va_cwS 2 hts gL_law_L_low rfl rfl rfl (by decide +kernel) ⟨Nat.le_of_ble_eq_true rfl, Nat.le_of_ble_eq_true rfl⟩) rfl hl.1 rfl (Nat.le_of_ble_eq_true rfl) dL_law_34 ⟨by show n + 0 + 0 ≤ 663013; omega, by show nS + 0 + 0 ≤ 7112659; omega⟩ (fun r3 f4 H locs hp5 hw => ?_)
  obtain ⟨hp5a, hp5b⟩ := hp5
  rw [hp5b] at hw
  obtain ⟨q34, hq34, eq34⟩ := low_nI (r2) (n := 3) (by decide) (by decide)
  rw [hp5a, show (lowF r2 3 : Int32) = nI q34 from eq34]
  refine lv_istore (lv' := [(5, .int (nI q34)), (4, .int (nI i)), (3, .int 1), (0, .ref b), (1, .ref (α 0 0 0)), (2, .ref (β 0 0 0))]) hx hb dL_law_37 hl (by decide) rfl (fun ls hl => ?_)
  refine lv_iload_n hx hb dL_law_39 rfl (lv_at hl 2 rfl) ?_
  refine lv_if_eq (tgt := 77) hx hb dL_law_40 (by decide) (fun c_6 => absurd c_6 (by decide)) (fun _ => ?_)
  rcases ha : addF (nI q34) S with _ | ⟨r1, S1⟩
  · have z : addF (nI q34) S = _ := if_pos ⟨inr_nI (n := 2) (by omega) (by decide), by omega⟩
    rw [ha] at z
    cases z
  · have hJ1 := J_addF hJ ha
    have hr1 : r1 = nI i := by rw [hJ1.2.2.2, h3]
    refine lv_aload_n hx hb dL_law_43 rfl (lv_at hl 4 rfl) ?_
    refine lv_iconst (v := 0) hx hb dL_law_44 (by decide) ?_
    refine lv_iload hx hb dL_law_45 (lv_at hl 0 rfl) ?_
    refine lv_iconst (v := 0) hx hb dL_law_47 (by decide) ?_
    refine lv_iconst (v := 0) hx hb dL_law_48 (by decide) ?_
    refine lv_iconst (v := 0) hx hb dL_law_49 (by decide) ?_
    refine fw_callSH hx hb hml hown hts hE hw [.ref (α 0 0 0), .int 0, .int (nI q34), .int 0, .int 0, .int 0] [] (met_L hd (fun A => c_L_does l D A y sa f hfl α S 0 (nI q34) 0 0 0 hN hI hR)) (vx_cwSW 6 hts gL_law_L_does rfl rfl rfl (by decide +kernel) ⟨Nat.le_of_ble_eq_true rfl, Nat.le_of_ble_eq_true rfl⟩) rfl hl.1 rfl (Nat.le_of_ble_eq_true rfl) dL_law_50 ⟨by show n + 0 + 0 + 8 ≤ 663013; omega, by show nS + 0 + 0 + 131 ≤ 7112659; omega⟩ (fun r7 f8 H locs hp9 hw => ?_)
    obtain ⟨hp9a, f1, α2, hp9b, hd1, hα2, hR1⟩ := hp9.some (doesF_0.trans ha)
    rw [hp9b] at hw
    rw [hp9a]
    refine lv_iload hx hb dL_law_53 (lv_at hl 1 rfl) ?_
    refine lv_icmp_ne (tgt := 77) hx hb dL_law_55 (by decide) (fun c_10 => absurd (hr1) c_10) (fun _ => ?_)
    refine lv_aload_n hx hb dL_law_58 rfl (lv_at hl 5 rfl) ?_
    refine lv_iconst (v := 0) hx hb dL_law_59 (by decide) ?_
    refine lv_iload hx hb dL_law_60 (lv_at hl 0 rfl) ?_
    refine lv_iconst (v := 0) hx hb dL_law_62 (by decide) ?_
    refine lv_iconst (v := 0) hx hb dL_law_63 (by decide) ?_
    refine lv_iconst (v := 0) hx hb dL_law_64 (by decide) ?_
    refine fw_callSH hx hb hml hown hts hE hw [.ref (β 0 0 0), .int 0, .int (nI q34), .int 0, .int 0, .int 0] [] (met_R hd1 (fun A => c_L_does l D A y sa g hfl β S 0 (nI q34) 0 0 0 hN hI hG)) (vx_cwSW 6 hts gL_law_L_does rfl rfl rfl (by decide +kernel) ⟨Nat.le_of_ble_eq_true rfl, Nat.le_of_ble_eq_true rfl⟩) rfl hl.1 rfl (Nat.le_of_ble_eq_true rfl) dL_law_65 ⟨by show n + 0 + 0 + 8 + 8 ≤ 663013; omega, by show nS + 0 + 0 + 131 + 131 ≤ 7112659; omega⟩ (fun r11 f12 H locs hp13 hw => ?_)
    obtain ⟨hp13a, g1, β2, hp13b, hd2, hβ2, hG1⟩ := hp13.some (doesF_0.trans ha)
    rw [hp13b] at hw
    rw [hp13a]
    refine lv_iload hx hb dL_law_68 (lv_at hl 1 rfl) ?_
    refine lv_icmp_ne (tgt := 77) hx hb dL_law_70 (by decide) (fun c_14 => absurd (hr1) c_14) (fun _ => ?_)
    refine lv_iconst (v := 1) hx hb dL_law_73 (by decide) ?_
    refine lv_goto (tgt := 78) hx hb dL_law_74 (by decide) ?_
    refine lv_istore_n (lv' := [(3, .int 1), (5, .int (nI q34)), (4, .int (nI i)), (0, .ref b), (1, .ref (α 0 0 0)), (2, .ref (β 0 0 0))]) hx hb dL_law_78 rfl hl (by decide) rfl (fun ls hl => ?_)
    refine lv_iinc (v := (nI (i + 1))) (lv' := [(4, .int (nI (i + 1))), (3, .int 1), (5, .int (nI q34)), (0, .ref b), (1, .ref (α 0 0 0)), (2, .ref (β 0 0 0))]) hx hb dL_law_79 hl (k := 2) rfl (nI_1 (i)) (by decide) rfl (fun ls hl => ?_)
    refine lv_goto (tgt := 21) hx hb dL_law_82 (by decide) ?_
    refine W.widen (k := n + 16) (n := nS + 262) (by omega) (by omega) ?_
    have hl : lv_has ls 7 [(4, .int (nI (i + 1))), (3, .int 1), (0, .ref b), (1, .ref x), (2, .ref z)] := by rw [← hα, ← hβ]; exact lv_sub hl [0, 1, 3, 4, 5] rfl
    exact k S1 _ H locs ls ⟨hJ1.1, by rw [hJ1.2.2.1, h3], α2, β2, f1, g1, hα2.trans hα, hβ2.trans hβ, hR1, hG1, hd2, rfl⟩ hw hl
set_option maxHeartbeats 4000000 in
set_option maxRecDepth 100000 in
theorem lw_add {p : Program} {e : Env} {s : State} {m : MethodId} {below : List Frame} {meth : Method} {c : Code} {l : Launch} {b L : Nat} {xs : Nat → Int32} {D : va_G} {y : Nat → ClassId} {sa : Nat → Nat} (hfl : l.stackTraces = false) (C0 : lw_At p s m meth c b L xs) (hL : L ≤ 260) (hE : fw_E D (fun q => s.heap.size ≤ q) y sa s) {x z : Nat} : ∀ (d i : Nat), i + d = 3 → ∀ (S : pS) (h : fw_F) (H : Heap) (locs : List Loc) (ls : Array Slot), LwT y x z i S h → fw_S D (fun q => s.heap.size ≤ q) s.heap h H locs → lv_has ls 7 [(4, .int (nI i)), (3, .int 1), (0, .ref b), (1, .ref x), (2, .ref z)] → W p l e room_1 s m #[Value.ref b] below meth c H locs (100 + 16 * i) (2000 + 262 * i) (lw_Z below #[Value.ref b] s) (F0 m 21 ls [])
  | 0, i, hd => fun S h H locs ls hQ hw hl => by
    obtain rfl : i = 3 := by omega
    obtain ⟨hx, hb, hr, hml, hown, hts0, hX, hbl, hlocks, hgv⟩ := id C0
    refine lv_iload hx hb dL_law_21 (lv_at hl 0 rfl) ?_
    refine lv_iconst (v := 3) hx hb dL_law_23 (by decide) ?_
    refine lv_icmp_ge (tgt := 85) hx hb dL_law_24 (by decide) (fun _ => ?_) (fun c9 => absurd (show (3 : Int32) ≤ nI 3 from by decide) c9)
    refine lv_iconst (v := 3) hx hb dL_law_85 (by decide) ?_
    refine lv_istore (lv' := [(4, .int 3), (3, .int 1), (0, .ref b), (1, .ref x), (2, .ref z)]) hx hb dL_law_86 hl (by decide) rfl (fun ls hl => ?_)
    refine W.widen (k := 1000 + 1265 * 3) (n := 10000 + 8337 * 3) (by omega) (by omega) ?_
    exact lw_loop hfl C0 hL hE 107 3 (by omega) S h H locs ls hQ hw hl
  | d + 1, i, hd => by
    refine lw_21 hfl C0 hL hE (by omega) (100 + 16 * i) (2000 + 262 * i) (by omega) (by omega) (fun S h H locs ls hQ hw hl => ?_)
    refine W.widen (k := 100 + 16 * (i + 1)) (n := 2000 + 262 * (i + 1)) (by omega) (by omega) ?_
    exact lw_add hfl C0 hL hE d (i + 1) (by omega) S h H locs ls hQ hw hl
set_option maxRecDepth 20000 in
theorem st_law : ∀ w ∈ ([.classLink RL 9 RX8, .instantiable RX8 10, .initialized RX8, .methodLink RL 103 yX8_init, .instanceMethod yX8_init] : List Cond), w ∈ lw_tbl := by decide +kernel
set_option maxHeartbeats 4000000 in
set_option maxRecDepth 100000 in
/-- from the entry, for every script of at most 260 ints, the law comes to its end with true -/
theorem whole_start {p : Program} {e : Env} {s : State} {m : MethodId} {below : List Frame} {meth : Method} {c : Code} (l : Launch) (hflags : l.flags = flags0) {b L : Nat} {xs : Nat → Int32} (hL : L ≤ 260) (C0 : lw_At p s m meth c b L xs) : W p l e room_1 s m #[Value.ref b] below meth c s.heap [] 0 0 (lw_Z below #[Value.ref b] s) (entryFrame m ([Value.ref b] : List Value).toArray 7) := by
  obtain ⟨hx, hb, hr, hml, hown, hts0, hX, hbl, hlocks, hgv⟩ := id C0
  have hfl : l.stackTraces = false := by
    unfold Launch.stackTraces
    rw [hflags]
    decide +kernel
  have hown : s.vm.findClass RL = some m.cls := hown
  have hts : ∀ w ∈ wsL_law, w.before #[Value.ref b] s = true := fun w h => hts0 w (wsL_law_in w h)
  obtain ⟨D, y, sa, hE⟩ := lw_E C0
  have hl := lv_entry ([.ref b]) (n := 7) (Nat.le_of_ble_eq_true rfl)
  rw [lg_entry_eq]
  generalize (lg_sl ([.ref b]) ++ List.replicate (7 - (lg_sl ([.ref b])).length) Slot.unset).toArray = ls at hl ⊢
  have hl : lv_has ls 7 [(0, .ref b)] := hl
  have hw : fw_S D (fun q => s.heap.size ≤ q) s.heap (fun _ => none) s.heap [] := ⟨⟨fun a e h => (nomatch h), fun a e h => (nomatch h)⟩, va_S.rf⟩
  refine fw_new hx hb hts0 hown hE.1.1 hw hE.2.1 (ci := 8) (C := RX8) (T := TX8) (N := 10) (fs := [.null, .null, .null, .null, .null, .int 0, .int 0, .int 0, .int 0, .int 0]) inX8 tyX8 tyX8_ok (st_law _ (by simp only [List.mem_cons, true_or])) (st_law _ (by simp only [List.mem_cons, true_or, or_true])) (st_law _ (by simp only [List.mem_cons, true_or, or_true])) rfl (fun j hj => by rcases (show j = 0 ∨ j = 1 ∨ j = 2 ∨ j = 3 ∨ j = 4 ∨ j = 5 ∨ j = 6 ∨ j = 7 ∨ j = 8 ∨ j = 9 by omega) with rfl | rfl | rfl | rfl | rfl | rfl | rfl | rfl | rfl | rfl <;> rfl) (Nat.le_of_ble_eq_true rfl) (Nat.le_of_ble_eq_true rfl) dL_law_0 (fun x0 H hnx hw => ?_)
  refine lv_dup hx hb dL_law_3 rfl ?_
  refine fw_callIv hx hb hml hown hts hE hw [] [.ref x0] (c_X8_init l D (fun q => s.heap.size ≤ q) y sa _ x0 fw_up_s) (cwI 0 hts gL_law_X8_init rfl rfl rfl (hts0 (.initialized RX8) (st_law _ (by simp only [List.mem_cons, true_or, or_true]))) (hts0 _ (st_law (.methodLink RL 103 yX8_init) (by simp only [List.mem_cons, true_or, or_true]))) (hts0 _ (st_law _ (by simp only [List.mem_cons, true_or, or_true]))) rfl (by decide +kernel) ⟨Nat.le_of_ble_eq_true rfl, Nat.le_of_ble_eq_true rfl⟩) rfl hl.1 rfl (Nat.le_of_ble_eq_true rfl) dL_law_4 ⟨Nat.le_of_ble_eq_true rfl, Nat.le_of_ble_eq_true rfl⟩ (fun fc H2 locs2 hp hw2 => ?_)
  obtain ⟨α, rfl, hRc⟩ := hp
  have hw := hw2
  refine lv_astore_n (lv' := [(1, .ref (α 0 0 0)), (0, .ref b)]) hx hb dL_law_7 rfl hl (by decide) rfl (fun ls hl => ?_)
  refine fw_new hx hb hts0 hown hE.1.1 hw hE.2.1 (ci := 8) (C := RX8) (T := TX8) (N := 10) (fs := [.null, .null, .null, .null, .null, .int 0, .int 0, .int 0, .int 0, .int 0]) inX8 tyX8 tyX8_ok (st_law _ (by simp only [List.mem_cons, true_or])) (st_law _ (by simp only [List.mem_cons, true_or, or_true])) (st_law _ (by simp only [List.mem_cons, true_or, or_true])) rfl (fun j hj => by rcases (show j = 0 ∨ j = 1 ∨ j = 2 ∨ j = 3 ∨ j = 4 ∨ j = 5 ∨ j = 6 ∨ j = 7 ∨ j = 8 ∨ j = 9 by omega) with rfl | rfl | rfl | rfl | rfl | rfl | rfl | rfl | rfl | rfl <;> rfl) (Nat.le_of_ble_eq_true rfl) (Nat.le_of_ble_eq_true rfl) dL_law_8 (fun q2 H3 hn2 hw3 => ?_)
  have hw := hw3
  refine lv_dup hx hb dL_law_11 rfl ?_
  have e1 : ∀ E : va_E, fw_up fc q2 E = fw_or (fw_up (fun _ => none) q2 E) fc := fun E => by
    funext a
    by_cases z : a = q2
    · subst z
      rw [fw_up_s, fw_or_l fw_up_s]
    · rw [fw_up_n z, fw_or_n (fw_up_n z)]
  have d1 : ∀ E : va_E, fw_dis (fw_up (fun _ => none) q2 E) fc := fun E a ha => by
    by_cases z : a = q2
    · rw [z]; exact hn2
    · exact absurd (fw_up_n z) ha
  rw [e1] at hw
  refine fw_callIvN hx hb hml hown hts hE hw (d1 _) [] [.ref q2] (c_X8_init l D (fw_A (fun q => s.heap.size ≤ q) fc) y sa _ q2 fw_up_s) (cwI 0 hts gL_law_X8_init rfl rfl rfl (hts0 (.initialized RX8) (st_law _ (by simp only [List.mem_cons, true_or, or_true]))) (hts0 _ (st_law (.methodLink RL 103 yX8_init) (by simp only [List.mem_cons, true_or, or_true]))) (hts0 _ (st_law _ (by simp only [List.mem_cons, true_or, or_true]))) rfl (by decide +kernel) ⟨Nat.le_of_ble_eq_true rfl, Nat.le_of_ble_eq_true rfl⟩) rfl hl.1 rfl (Nat.le_of_ble_eq_true rfl) dL_law_12 ⟨Nat.le_of_ble_eq_true rfl, Nat.le_of_ble_eq_true rfl⟩ (fun f2 H4 locs4 hp hd2 hw4 => ?_)
  obtain ⟨β, rfl, hRb⟩ := hp
  have hw := hw4
  refine lv_astore_n (lv' := [(2, .ref (β 0 0 0)), (1, .ref (α 0 0 0)), (0, .ref b)]) hx hb dL_law_15 rfl hl (by decide) rfl (fun ls hl => ?_)
  rw [fw_or_c hd2] at hw
  refine lv_iconst (v := 1) hx hb dL_law_16 (by decide) ?_
  refine lv_istore_n (lv' := [(3, .int 1), (2, .ref (β 0 0 0)), (1, .ref (α 0 0 0)), (0, .ref b)]) hx hb dL_law_17 rfl hl (by decide) rfl (fun ls hl => ?_)
  refine lv_iconst (v := 0) hx hb dL_law_18 (by decide) ?_
  refine lv_istore (lv' := [(4, .int 0), (3, .int 1), (2, .ref (β 0 0 0)), (1, .ref (α 0 0 0)), (0, .ref b)]) hx hb dL_law_19 hl (by decide) rfl (fun ls hl => ?_)
  refine W.widen (k := 100 + 16 * 0) (n := 2000 + 262 * 0) (by omega) (by omega) ?_
  exact lw_add hfl C0 hL hE 3 0 (by omega) (0, 0, 0, 0, kap0) _ _ _ ls ⟨J_init, rfl, α, β, fc, f2, rfl, rfl, hRc, hRb, hd2.symm, rfl⟩ hw (lv_sub hl [0, 1, 4, 3, 2] rfl)
