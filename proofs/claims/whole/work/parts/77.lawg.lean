set_option maxRecDepth 20000 in
theorem st_law : ∀ w ∈ ([.classLink RL 8 RX8, .instantiable RX8 10, .initialized RX8, .classLink RL 79 RX9, .instantiable RX9 25, .initialized RX9, .arrayClass (newarray.typeOf .long), .methodLink RL 78 yX8_init, .instanceMethod yX8_init, .methodLink RL 81 yX9_init, .instanceMethod yX9_init] : List Cond), w ∈ lw_tbl := by decide +kernel
set_option maxHeartbeats 4000000 in
set_option maxRecDepth 100000 in
/-- from the entry, for every script of at most 3072 ints, the law comes to its end with true -/
theorem whole_start {p : Program} {e : Env} {s : State} {m : MethodId} {below : List Frame} {meth : Method} {c : Code} (l : Launch) (hflags : l.flags = flags0) {b L : Nat} {xs : Nat → Int32} (hL : L ≤ 3072) (C0 : lw_At p s m meth c b L xs) : W p l e room_1 s m #[Value.ref b] below meth c s.heap [] 0 0 (lw_Z below #[Value.ref b] s) (entryFrame m ([Value.ref b] : List Value).toArray 7) := by
  obtain ⟨hx, hb, hr, hml, hown, hts0, hX, hbl, hlocks, hgv⟩ := id C0
  have hfl : l.stackTraces = false := by
    unfold Launch.stackTraces
    rw [hflags]
    decide +kernel
  have hown : s.vm.findClass RL = some m.cls := hown
  have hts : ∀ w ∈ wsL_law, w.before #[Value.ref b] s = true := fun w h => hts0 w (wsL_law_in w h)
  obtain ⟨D, y, sa, hE⟩ := lw_E C0
  have hl := lv_entry ([.ref b]) (n := 7) (Nat.le_of_ble_eq_true rfl)
  rw [lg_entry_eq]
  generalize (lg_sl ([.ref b]) ++ List.replicate (7 - (lg_sl ([.ref b])).length) Slot.unset).toArray = ls at hl ⊢
  have hl : lv_has ls 7 [(0, .ref b)] := hl
  have hw : fw_S D (fun q => s.heap.size ≤ q) s.heap (fun _ => none) s.heap [] := ⟨⟨fun a e h => (nomatch h), fun a e h => (nomatch h)⟩, va_S.rf⟩
  refine fw_new hx hb hts0 hown hE.1.1 hw hE.2.1 (ci := 8) (C := RX8) (T := TX8) (N := 10) (fs := [.null, .null, .null, .null, .null, .int 0, .int 0, .int 0, .int 0, .int 0]) inX8 tyX8 tyX8_ok (st_law _ (by simp only [List.mem_cons, true_or])) (st_law _ (by simp only [List.mem_cons, true_or, or_true])) (st_law _ (by simp only [List.mem_cons, true_or, or_true])) rfl (fun j hj => by rcases (show j = 0 ∨ j = 1 ∨ j = 2 ∨ j = 3 ∨ j = 4 ∨ j = 5 ∨ j = 6 ∨ j = 7 ∨ j = 8 ∨ j = 9 by omega) with rfl | rfl | rfl | rfl | rfl | rfl | rfl | rfl | rfl | rfl <;> rfl) (Nat.le_of_ble_eq_true rfl) (Nat.le_of_ble_eq_true rfl) dL_law_0 (fun x0 H hnx hw => ?_)
  refine lv_dup hx hb dL_law_3 rfl ?_
  refine fw_callIv hx hb hml hown hts hE hw [] [.ref x0] (c_X8_init l D (fun q => s.heap.size ≤ q) y sa _ x0 fw_up_s) (cwI 0 hts gL_law_X8_init rfl rfl rfl (hts0 (.initialized RX8) (st_law _ (by simp only [List.mem_cons, true_or, or_true]))) (hts0 _ (st_law (.methodLink RL 78 yX8_init) (by simp only [List.mem_cons, true_or, or_true]))) (hts0 _ (st_law _ (by simp only [List.mem_cons, true_or, or_true]))) rfl (by decide +kernel) ⟨Nat.le_of_ble_eq_true rfl, Nat.le_of_ble_eq_true rfl⟩) rfl hl.1 rfl (Nat.le_of_ble_eq_true rfl) dL_law_4 ⟨Nat.le_of_ble_eq_true rfl, Nat.le_of_ble_eq_true rfl⟩ (fun fc H2 locs2 hp hw2 => ?_)
  obtain ⟨α, rfl, hRc⟩ := hp
  have hw := hw2
  refine lv_astore_n (lv' := [(1, .ref (α 0 0 0)), (0, .ref b)]) hx hb dL_law_7 rfl hl (by decide) rfl (fun ls hl => ?_)
  refine fw_new hx hb hts0 hown hE.1.1 hw hE.2.1 (ci := 9) (C := RX9) (T := TX9) (N := 25) (fs := [.int 0, .int 0, .int 0, .null, .null, .null, .null, .null, .null, .null, .null, .null, .null, .int 0, .null, .null, .null, .null, .int 0, .null, .null, .int 0, .null, .null, .null]) inX9 tyX9 tyX9_ok (st_law _ (by simp only [List.mem_cons, true_or, or_true])) (st_law _ (by simp only [List.mem_cons, true_or, or_true])) (st_law _ (by simp only [List.mem_cons, true_or, or_true])) rfl (fun j hj => by rcases (show j = 0 ∨ j = 1 ∨ j = 2 ∨ j = 3 ∨ j = 4 ∨ j = 5 ∨ j = 6 ∨ j = 7 ∨ j = 8 ∨ j = 9 ∨ j = 10 ∨ j = 11 ∨ j = 12 ∨ j = 13 ∨ j = 14 ∨ j = 15 ∨ j = 16 ∨ j = 17 ∨ j = 18 ∨ j = 19 ∨ j = 20 ∨ j = 21 ∨ j = 22 ∨ j = 23 ∨ j = 24 by omega) with rfl | rfl | rfl | rfl | rfl | rfl | rfl | rfl | rfl | rfl | rfl | rfl | rfl | rfl | rfl | rfl | rfl | rfl | rfl | rfl | rfl | rfl | rfl | rfl | rfl <;> rfl) (Nat.le_of_ble_eq_true rfl) (Nat.le_of_ble_eq_true rfl) dL_law_8 (fun q2 H hn2 hw => ?_)
  refine lv_dup hx hb dL_law_11 rfl ?_
  have e1 : ∀ E : va_E, fw_up fc q2 E = fw_or (fw_up (fun _ => none) q2 E) fc := fun E => by
    funext a
    by_cases z : a = q2
    · subst z
      rw [fw_up_s, fw_or_l fw_up_s]
    · rw [fw_up_n z, fw_or_n (fw_up_n z)]
  have d1 : ∀ E : va_E, fw_dis (fw_up (fun _ => none) q2 E) fc := fun E a ha => by
    by_cases z : a = q2
    · rw [z]; exact hn2
    · exact absurd (fw_up_n z) ha
  rw [e1] at hw
  refine fw_callIvN hx hb hml hown hts hE hw (d1 _) [] [.ref q2] (c_X9_init l D (fw_A (fun q => s.heap.size ≤ q) fc) y sa _ q2 fw_up_s) (cwI 0 hts gL_law_X9_init rfl rfl rfl (hts0 (.initialized RX9) (st_law _ (by simp only [List.mem_cons, true_or, or_true]))) (hts0 _ (st_law (.methodLink RL 81 yX9_init) (by simp only [List.mem_cons, true_or, or_true]))) (hts0 _ (st_law _ (by simp only [List.mem_cons, true_or, or_true]))) rfl (by decide +kernel) ⟨Nat.le_of_ble_eq_true rfl, Nat.le_of_ble_eq_true rfl⟩) rfl hl.1 rfl (Nat.le_of_ble_eq_true rfl) dL_law_12 ⟨Nat.le_of_ble_eq_true rfl, Nat.le_of_ble_eq_true rfl⟩ (fun f2 H4 locs4 hp hd2 hw4 => ?_)
  obtain ⟨β, rfl, hRm⟩ := hp
  have hw := hw4
  refine lv_astore_n (lv' := [(2, .ref (β 0)), (1, .ref (α 0 0 0)), (0, .ref b)]) hx hb dL_law_15 rfl hl (by decide) rfl (fun ls hl => ?_)
  refine lv_iconst (v := 1) hx hb dL_law_16 (by decide) ?_
  refine fw_newJ hx hb hts0 hE.1.1 hw hE.2.1 (st_law _ (by simp only [List.mem_cons, true_or, or_true])) 9 rfl (n := 1) (N := 1) (by decide) (by decide +kernel) (by decide +kernel) (Nat.le_of_ble_eq_true rfl) (Nat.le_of_ble_eq_true rfl) dL_law_17 (fun o H hno hw => ?_)
  have hof : f2 o = none := fw_or_none hno
  have hoc : fc o = none := by rw [fw_or_n hof] at hno; exact hno
  have hdo : fw_dis fc (oC y o (fun _ => 0)) := fun a ha => by
    by_cases z : a = o
    · rw [z] at ha; exact absurd hoc ha
    · exact oC_n z
  have hd : fw_dis (fw_or fc (oC y o (fun _ => 0))) f2 := fun a ha => by
    by_cases z : a = o
    · rw [z]; exact hof
    · cases hf : fc a with
      | none => rw [fw_or_n hf, oC_n z] at ha; exact absurd rfl ha
      | some E => exact hd2.symm a (by rw [hf]; exact fun z => nomatch z)
  have ew : fw_up (fw_or f2 fc) o (.inl (y 9, 1, .inr (.inl (fun _ => 0)))) = fw_or (fw_or fc (oC y o (fun _ => 0))) f2 := by
    rw [fw_or_c hd2]
    funext a
    by_cases z : a = o
    · subst z
      rw [fw_up_s, fw_or_l (by rw [fw_or_n hoc]; exact oC_o)]
    · rw [fw_up_n z]
      cases hf : fc a with
      | none => rw [fw_or_n hf, fw_or_n (by rw [fw_or_n hf]; exact oC_n z)]
      | some E => rw [fw_or_l hf, fw_or_l (fw_or_l hf)]
  rw [ew] at hw
  refine lv_astore_n (lv' := [(3, .ref o), (2, .ref (β 0)), (1, .ref (α 0 0 0)), (0, .ref b)]) hx hb dL_law_19 rfl hl (by decide) rfl (fun ls hl => ?_)
  refine lv_iconst (v := 0) hx hb dL_law_20 (by decide) ?_
  refine lv_istore (lv' := [(4, .int 0), (3, .ref o), (2, .ref (β 0)), (1, .ref (α 0 0 0)), (0, .ref b)]) hx hb dL_law_21 hl (by decide) rfl (fun ls hl => ?_)
  refine W.widen (k := 51 + 8 * 0) (n := 2642 + 131 * 0) (by omega) (by omega) ?_
  exact lw_loop hfl C0 hL hE (i := 0) (Nat.zero_le L) ⟨muC 160, kap0, 0, 0, 0, 0, α, fc, fun _ => 0, sim_init, hRc, rfl, hRm, hdo, rfl⟩ hd hw hl
