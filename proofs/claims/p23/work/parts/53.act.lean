section JN
variable {p : Program} {l : Launch} {e : Env} {R : Room} {s : State} {m : MethodId} {args : Array Value} {below : List Frame} {meth : Method} {c : Code} {H : Heap} {locs : List Loc} {cells slots : Nat} {Q : State → Prop}
/-- a value by a condition: where its two roads meet -/
theorem fw_join {P : Prop} [Decidable P] {a b : Int32} {pc2 : Nat} {ls : Array Slot} {rest : List Value} {g : JFrame} (k : W p l e R s m args below meth c H locs cells slots Q (F0 m pc2 ls (.int (if P then a else b) :: rest)))
    (h : (P → W p l e R s m args below meth c H locs cells slots Q (F0 m pc2 ls (.int a :: rest))) → (¬ P → W p l e R s m args below meth c H locs cells slots Q (F0 m pc2 ls (.int b :: rest))) → W p l e R s m args below meth c H locs cells slots Q g) : W p l e R s m args below meth c H locs cells slots Q g :=
  h (fun hp => by rw [if_pos hp] at k; exact k) (fun hp => by rw [if_neg hp] at k; exact k)
end JN
def actX (v : Int32) (S : pS) : Option (Int32 × pS) := (if 13 ≤ (lowF v 34) then (if 17 ≤ (lowF v 34) then (if 26 ≤ (lowF v 34) then (if (lowF v 34) = 26 then doesF 5 (lowF (v >>> (6 &&& 31)) 11000000) 0 0 0 S else doesF 8 0 0 0 0 S) else (if 20 ≤ (lowF v 34) then (if 25 ≤ (lowF v 34) then doesF 7 (lowF (v >>> (6 &&& 31)) 50) 0 0 0 S else doesF 6 ((lowF (v >>> (6 &&& 31)) 5) - 1) (lowF (v >>> (9 &&& 31)) 11000000) 0 0 S) else doesF 4 ((lowF (v >>> (6 &&& 31)) 10) - 1) ((lowF (v >>> (13 &&& 31)) 5) - 1) (lowF (v >>> (9 &&& 31)) 11000000) ((1 : Int32) + (lowF (v >>> (11 &&& 31)) 1100000)) S)) else (if 15 ≤ (lowF v 34) then doesF 2 ((lowF (v >>> (13 &&& 31)) 5) - 1) ((lowF (v >>> (9 &&& 31)) 36) - 2) (lowF (v >>> (11 &&& 31)) 11000) (lowF (v >>> (14 &&& 31)) 11000) S else doesF 1 ((lowF (v >>> (6 &&& 31)) 10) - 1) ((lowF (v >>> (9 &&& 31)) 36) - 2) ((lowF (v >>> (13 &&& 31)) 5) - 1) 0 S)) else (if 9 ≤ (lowF v 34) then doesF 3 ((lowF (v >>> (6 &&& 31)) 10) - 1) ((lowF (v >>> (8 &&& 31)) 24) - 2) ((lowF (v >>> (12 &&& 31)) 110) - 3) ((lowF (v >>> (15 &&& 31)) 110) - 3) S else comeF ((lowF (v >>> (6 &&& 31)) 10) - 1) ((lowF (v >>> (8 &&& 31)) 24) - 2) ((lowF (v >>> (9 &&& 31)) 36) - 2) ((lowF (v >>> (12 &&& 31)) 110) - 3) ((lowF (v >>> (15 &&& 31)) 110) - 3) S))
def actY (v : Int32) (S : pS) : Option (Int32 × pS) := (if 13 ≤ (lowF v 34) then (if 17 ≤ (lowF v 34) then (if 26 ≤ (lowF v 34) then (if (lowF v 34) = 26 then doesF 5 (lowF (v >>> (6 &&& 31)) 90000) 0 0 0 S else doesF 8 0 0 0 0 S) else (if 20 ≤ (lowF v 34) then (if 25 ≤ (lowF v 34) then doesF 7 (lowF (v >>> (6 &&& 31)) 12) 0 0 0 S else doesF 6 (lowF (v >>> (6 &&& 31)) 3) ((1 : Int32) + (lowF (v >>> (9 &&& 31)) (if ((v >>> (20 &&& 31)) &&& 1) = 0 then 10000000 else 300000))) 0 0 S) else doesF 4 (lowF (v >>> (6 &&& 31)) 3) (lowF (v >>> (13 &&& 31)) 3) ((1 : Int32) + (lowF (v >>> (9 &&& 31)) (if ((v >>> (20 &&& 31)) &&& 1) = 0 then 10000000 else 300000))) ((1 : Int32) + (lowF (v >>> (11 &&& 31)) 30000)) S)) else (if 15 ≤ (lowF v 34) then doesF 2 (lowF (v >>> (13 &&& 31)) 3) (lowF (v >>> (9 &&& 31)) (if ((v >>> (19 &&& 31)) &&& 1) = 0 then 31 else 4)) ((100 : Int32) * (lowF (v >>> (11 &&& 31)) 101)) (lowF (v >>> (14 &&& 31)) 10001) S else doesF 1 (lowF (v >>> (6 &&& 31)) 3) (lowF (v >>> (9 &&& 31)) (if ((v >>> (19 &&& 31)) &&& 1) = 0 then 31 else 4)) (lowF (v >>> (13 &&& 31)) 3) 0 S)) else (if 9 ≤ (lowF v 34) then doesF 3 (lowF (v >>> (6 &&& 31)) 3) (lowF (v >>> (8 &&& 31)) (if ((v >>> (18 &&& 31)) &&& 1) = 0 then 20 else 4)) (lowF (v >>> (12 &&& 31)) 101) (lowF (v >>> (15 &&& 31)) 101) S else comeF (lowF (v >>> (6 &&& 31)) 3) (lowF (v >>> (8 &&& 31)) (if ((v >>> (18 &&& 31)) &&& 1) = 0 then 20 else 4)) (lowF (v >>> (9 &&& 31)) (if ((v >>> (19 &&& 31)) &&& 1) = 0 then 31 else 4)) (lowF (v >>> (12 &&& 31)) 101) (lowF (v >>> (15 &&& 31)) 101) S))
/-- what happens by a cell -/
def actF (v : Int32) (S : pS) : Option (Int32 × pS) := if lowF (v >>> (24 &&& 31)) 8 = 0 then actX v S else actY v S
set_option maxHeartbeats 4000000 in
set_option maxRecDepth 100000 in
/-- the law: act -/
theorem c_L_act (l : Launch) (D : va_G) (A : Nat → Prop) (y : Nat → ClassId) (sa : Nat → Nat) (f : fw_F) (hfl : l.stackTraces = false) (α : Nat → Nat → Nat → Nat) (S : pS) (v : Int32) (hN : nS S) (hI : IS S) (hR : RS y S α f) : Met l yL_act wsL_act ({ frames := 10, cells := 8, slots := 131, locals := 183 } : Room) (cPc D A y sa f [.ref (α 0 0 0), .int v]) (cQi D A (dPo y f α (actF v S))) 8 131 A := by
  refine fw_met (by decide) rfl [.ref (α 0 0 0), .int v] (Nat.le_of_ble_eq_true rfl) ?_
  intro p e s m args below meth c ls I hin hE hw hl
  obtain ⟨hx, hb, hr, hts, hown, hlocks, hml⟩ := I
  have hown : s.vm.findClass RL = some m.cls := hown
  have hl : lv_has ls 10 [(0, .ref (α 0 0 0)), (1, .int v)] := hl
  refine lv_iload_n hx hb dL_act_0 rfl (lv_at hl 1 rfl) ?_
  refine lv_bipush (v := 24) hx hb dL_act_1 (by decide) ?_
  refine lv_ishr hx hb dL_act_3 ?_
  refine lv_bipush (v := 8) hx hb dL_act_4 (by decide) ?_
  refine fw_callSi hx hb hml hown hts hE hw [.int (v >>> (24 &&& 31)), .int 8] [] (c_L_low l D A y sa f (v >>> (24 &&& 31)) 8 (by decide)) (va_cwS 2 hts gL_act_L_low rfl rfl rfl (by decide +kernel) ⟨Nat.le_of_ble_eq_true rfl, Nat.le_of_ble_eq_true rfl⟩) rfl hl.1 rfl (Nat.le_of_ble_eq_true rfl) dL_act_6 ⟨Nat.le_of_ble_eq_true rfl, Nat.le_of_ble_eq_true rfl⟩ (fun r1 f2 H locs hp3 hw => ?_)
  obtain ⟨hp3a, hp3b⟩ := hp3
  rw [hp3b] at hw
  rw [hp3a]
  refine lv_if_ne (tgt := 16) hx hb dL_act_9 (by decide) (fun c_4 => ?_) (fun c_4 => ?_)
  · refine lv_iconst (v := 0) hx hb dL_act_16 (by decide) ?_
    refine lv_istore_n (lv' := [(2, .int 0), (0, .ref (α 0 0 0)), (1, .int v)]) hx hb dL_act_17 rfl hl (by decide) rfl (fun ls hl => ?_)
    refine lv_iload_n hx hb dL_act_18 rfl (lv_at hl 2 rfl) ?_
    refine lv_bipush (v := 34) hx hb dL_act_19 (by decide) ?_
    refine fw_callSi hx hb hml hown hts hE hw [.int v, .int 34] [] (c_L_low l D A y sa f v 34 (by decide)) (va_cwS 2 hts gL_act_L_low rfl rfl rfl (by decide +kernel) ⟨Nat.le_of_ble_eq_true rfl, Nat.le_of_ble_eq_true rfl⟩) rfl hl.1 rfl (Nat.le_of_ble_eq_true rfl) dL_act_21 ⟨Nat.le_of_ble_eq_true rfl, Nat.le_of_ble_eq_true rfl⟩ (fun r5 f6 H locs hp7 hw => ?_)
    obtain ⟨hp7a, hp7b⟩ := hp7
    rw [hp7b] at hw
    rw [hp7a]
    refine lv_istore_n (lv' := [(3, .int (lowF v 34)), (2, .int 0), (0, .ref (α 0 0 0)), (1, .int v)]) hx hb dL_act_24 rfl hl (by decide) rfl (fun ls hl => ?_)
    refine lv_iload_n hx hb dL_act_25 rfl (lv_at hl 1 rfl) ?_
    refine lv_if_eq (tgt := 43) hx hb dL_act_26 (by decide) (fun _ => ?_) (fun c_8 => absurd c_8 (by decide))
    refine lv_iload_n hx hb dL_act_43 rfl (lv_at hl 3 rfl) ?_
    refine lv_bipush (v := 6) hx hb dL_act_44 (by decide) ?_
    refine lv_ishr hx hb dL_act_46 ?_
    refine lv_iconst (v := 3) hx hb dL_act_47 (by decide) ?_
    refine fw_callSi hx hb hml hown hts hE hw [.int (v >>> (6 &&& 31)), .int 3] [] (c_L_low l D A y sa f (v >>> (6 &&& 31)) 3 (by decide)) (va_cwS 2 hts gL_act_L_low rfl rfl rfl (by decide +kernel) ⟨Nat.le_of_ble_eq_true rfl, Nat.le_of_ble_eq_true rfl⟩) rfl hl.1 rfl (Nat.le_of_ble_eq_true rfl) dL_act_48 ⟨Nat.le_of_ble_eq_true rfl, Nat.le_of_ble_eq_true rfl⟩ (fun r9 f10 H locs hp11 hw => ?_)
    obtain ⟨hp11a, hp11b⟩ := hp11
    rw [hp11b] at hw
    rw [hp11a]
    refine lv_istore (lv' := [(4, .int (lowF (v >>> (6 &&& 31)) 3)), (3, .int (lowF v 34)), (2, .int 0), (0, .ref (α 0 0 0)), (1, .int v)]) hx hb dL_act_51 hl (by decide) rfl (fun ls hl => ?_)
    refine lv_iload_n hx hb dL_act_53 rfl (lv_at hl 2 rfl) ?_
    refine lv_if_eq (tgt := 71) hx hb dL_act_54 (by decide) (fun _ => ?_) (fun c_12 => absurd c_12 (by decide))
    refine lv_iload_n hx hb dL_act_71 rfl (lv_at hl 4 rfl) ?_
    refine lv_bipush (v := 9) hx hb dL_act_72 (by decide) ?_
    refine lv_ishr hx hb dL_act_74 ?_
    refine lv_iload_n hx hb dL_act_75 rfl (lv_at hl 4 rfl) ?_
    refine lv_bipush (v := 19) hx hb dL_act_76 (by decide) ?_
    refine lv_ishr hx hb dL_act_78 ?_
    refine lv_iconst (v := 1) hx hb dL_act_79 (by decide) ?_
    refine lv_iand hx hb dL_act_80 ?_
    refine fw_join (P := ((v >>> (19 &&& 31)) &&& 1) = 0) (a := 31) (b := 4) (pc2 := 90) (ls := ls) (rest := [.int (v >>> (9 &&& 31))]) ?_ (fun ka kb => ?_)
    · refine fw_callSi hx hb hml hown hts hE hw [.int (v >>> (9 &&& 31)), .int (if ((v >>> (19 &&& 31)) &&& 1) = 0 then 31 else 4)] [] (c_L_low l D A y sa f (v >>> (9 &&& 31)) (if ((v >>> (19 &&& 31)) &&& 1) = 0 then 31 else 4) (by split <;> decide)) (va_cwS 2 hts gL_act_L_low rfl rfl rfl (by decide +kernel) ⟨Nat.le_of_ble_eq_true rfl, Nat.le_of_ble_eq_true rfl⟩) rfl hl.1 rfl (Nat.le_of_ble_eq_true rfl) dL_act_90 ⟨Nat.le_of_ble_eq_true rfl, Nat.le_of_ble_eq_true rfl⟩ (fun r13 f14 H locs hp15 hw => ?_)
      obtain ⟨hp15a, hp15b⟩ := hp15
      rw [hp15b] at hw
      rw [hp15a]
      refine lv_istore (lv' := [(5, .int (lowF (v >>> (9 &&& 31)) (if ((v >>> (19 &&& 31)) &&& 1) = 0 then 31 else 4))), (4, .int (lowF (v >>> (6 &&& 31)) 3)), (3, .int (lowF v 34)), (2, .int 0), (0, .ref (α 0 0 0)), (1, .int v)]) hx hb dL_act_93 hl (by decide) rfl (fun ls hl => ?_)
      refine lv_iload_n hx hb dL_act_95 rfl (lv_at hl 3 rfl) ?_
      refine lv_if_eq (tgt := 113) hx hb dL_act_96 (by decide) (fun _ => ?_) (fun c_16 => absurd c_16 (by decide))
      refine lv_iload_n hx hb dL_act_113 rfl (lv_at hl 5 rfl) ?_
      refine lv_bipush (v := 12) hx hb dL_act_114 (by decide) ?_
      refine lv_ishr hx hb dL_act_116 ?_
      refine lv_bipush (v := 101) hx hb dL_act_117 (by decide) ?_
      refine fw_callSi hx hb hml hown hts hE hw [.int (v >>> (12 &&& 31)), .int 101] [] (c_L_low l D A y sa f (v >>> (12 &&& 31)) 101 (by decide)) (va_cwS 2 hts gL_act_L_low rfl rfl rfl (by decide +kernel) ⟨Nat.le_of_ble_eq_true rfl, Nat.le_of_ble_eq_true rfl⟩) rfl hl.1 rfl (Nat.le_of_ble_eq_true rfl) dL_act_119 ⟨Nat.le_of_ble_eq_true rfl, Nat.le_of_ble_eq_true rfl⟩ (fun r17 f18 H locs hp19 hw => ?_)
      obtain ⟨hp19a, hp19b⟩ := hp19
      rw [hp19b] at hw
      rw [hp19a]
      refine lv_istore (lv' := [(6, .int (lowF (v >>> (12 &&& 31)) 101)), (5, .int (lowF (v >>> (9 &&& 31)) (if ((v >>> (19 &&& 31)) &&& 1) = 0 then 31 else 4))), (4, .int (lowF (v >>> (6 &&& 31)) 3)), (3, .int (lowF v 34)), (2, .int 0), (0, .ref (α 0 0 0)), (1, .int v)]) hx hb dL_act_122 hl (by decide) rfl (fun ls hl => ?_)
      refine lv_iload_n hx hb dL_act_124 rfl (lv_at hl 4 rfl) ?_
      refine lv_if_eq (tgt := 142) hx hb dL_act_125 (by decide) (fun _ => ?_) (fun c_20 => absurd c_20 (by decide))
      refine lv_iload_n hx hb dL_act_142 rfl (lv_at hl 6 rfl) ?_
      refine lv_bipush (v := 15) hx hb dL_act_143 (by decide) ?_
      refine lv_ishr hx hb dL_act_145 ?_
      refine lv_bipush (v := 101) hx hb dL_act_146 (by decide) ?_
      refine fw_callSi hx hb hml hown hts hE hw [.int (v >>> (15 &&& 31)), .int 101] [] (c_L_low l D A y sa f (v >>> (15 &&& 31)) 101 (by decide)) (va_cwS 2 hts gL_act_L_low rfl rfl rfl (by decide +kernel) ⟨Nat.le_of_ble_eq_true rfl, Nat.le_of_ble_eq_true rfl⟩) rfl hl.1 rfl (Nat.le_of_ble_eq_true rfl) dL_act_148 ⟨Nat.le_of_ble_eq_true rfl, Nat.le_of_ble_eq_true rfl⟩ (fun r21 f22 H locs hp23 hw => ?_)
      obtain ⟨hp23a, hp23b⟩ := hp23
      rw [hp23b] at hw
      rw [hp23a]
      refine lv_istore (lv' := [(7, .int (lowF (v >>> (15 &&& 31)) 101)), (6, .int (lowF (v >>> (12 &&& 31)) 101)), (5, .int (lowF (v >>> (9 &&& 31)) (if ((v >>> (19 &&& 31)) &&& 1) = 0 then 31 else 4))), (4, .int (lowF (v >>> (6 &&& 31)) 3)), (3, .int (lowF v 34)), (2, .int 0), (0, .ref (α 0 0 0)), (1, .int v)]) hx hb dL_act_151 hl (by decide) rfl (fun ls hl => ?_)
      refine lv_iload_n hx hb dL_act_153 rfl (lv_at hl 5 rfl) ?_
      refine lv_if_eq (tgt := 171) hx hb dL_act_154 (by decide) (fun _ => ?_) (fun c_24 => absurd c_24 (by decide))
      refine lv_iload_n hx hb dL_act_171 rfl (lv_at hl 7 rfl) ?_
      refine lv_bipush (v := 8) hx hb dL_act_172 (by decide) ?_
      refine lv_ishr hx hb dL_act_174 ?_
      refine lv_iload_n hx hb dL_act_175 rfl (lv_at hl 7 rfl) ?_
      refine lv_bipush (v := 18) hx hb dL_act_176 (by decide) ?_
      refine lv_ishr hx hb dL_act_178 ?_
      refine lv_iconst (v := 1) hx hb dL_act_179 (by decide) ?_
      refine lv_iand hx hb dL_act_180 ?_
      refine fw_join (P := ((v >>> (18 &&& 31)) &&& 1) = 0) (a := 20) (b := 4) (pc2 := 190) (ls := ls) (rest := [.int (v >>> (8 &&& 31))]) ?_ (fun ka kb => ?_)
      · refine fw_callSi hx hb hml hown hts hE hw [.int (v >>> (8 &&& 31)), .int (if ((v >>> (18 &&& 31)) &&& 1) = 0 then 20 else 4)] [] (c_L_low l D A y sa f (v >>> (8 &&& 31)) (if ((v >>> (18 &&& 31)) &&& 1) = 0 then 20 else 4) (by split <;> decide)) (va_cwS 2 hts gL_act_L_low rfl rfl rfl (by decide +kernel) ⟨Nat.le_of_ble_eq_true rfl, Nat.le_of_ble_eq_true rfl⟩) rfl hl.1 rfl (Nat.le_of_ble_eq_true rfl) dL_act_190 ⟨Nat.le_of_ble_eq_true rfl, Nat.le_of_ble_eq_true rfl⟩ (fun r25 f26 H locs hp27 hw => ?_)
        obtain ⟨hp27a, hp27b⟩ := hp27
        rw [hp27b] at hw
        rw [hp27a]
        refine lv_istore (lv' := [(8, .int (lowF (v >>> (8 &&& 31)) (if ((v >>> (18 &&& 31)) &&& 1) = 0 then 20 else 4))), (7, .int (lowF (v >>> (15 &&& 31)) 101)), (6, .int (lowF (v >>> (12 &&& 31)) 101)), (5, .int (lowF (v >>> (9 &&& 31)) (if ((v >>> (19 &&& 31)) &&& 1) = 0 then 31 else 4))), (4, .int (lowF (v >>> (6 &&& 31)) 3)), (3, .int (lowF v 34)), (2, .int 0), (0, .ref (α 0 0 0)), (1, .int v)]) hx hb dL_act_193 hl (by decide) rfl (fun ls hl => ?_)
        refine lv_iload_n hx hb dL_act_195 rfl (lv_at hl 5 rfl) ?_
        refine lv_bipush (v := 13) hx hb dL_act_196 (by decide) ?_
        refine lv_icmp_ge (tgt := 238) hx hb dL_act_198 (by decide) (fun c_28 => ?_) (fun c_28 => ?_)
        · refine lv_iload_n hx hb dL_act_238 rfl (lv_at hl 5 rfl) ?_
          refine lv_bipush (v := 17) hx hb dL_act_239 (by decide) ?_
          refine lv_icmp_ge (tgt := 351) hx hb dL_act_241 (by decide) (fun c_29 => ?_) (fun c_29 => ?_)
          · refine lv_iload_n hx hb dL_act_351 rfl (lv_at hl 6 rfl) ?_
            refine lv_if_eq (tgt := 367) hx hb dL_act_352 (by decide) (fun _ => ?_) (fun c_30 => absurd c_30 (by decide))
            refine lv_iconst (v := 1) hx hb dL_act_367 (by decide) ?_
            refine lv_iload_n hx hb dL_act_368 rfl (lv_at hl 8 rfl) ?_
            refine lv_bipush (v := 9) hx hb dL_act_369 (by decide) ?_
            refine lv_ishr hx hb dL_act_371 ?_
            refine lv_iload_n hx hb dL_act_372 rfl (lv_at hl 8 rfl) ?_
            refine lv_bipush (v := 20) hx hb dL_act_373 (by decide) ?_
            refine lv_ishr hx hb dL_act_375 ?_
            refine lv_iconst (v := 1) hx hb dL_act_376 (by decide) ?_
            refine lv_iand hx hb dL_act_377 ?_
            refine fw_join (P := ((v >>> (20 &&& 31)) &&& 1) = 0) (a := 10000000) (b := 300000) (pc2 := 388) (ls := ls) (rest := [.int (v >>> (9 &&& 31)), .int 1]) ?_ (fun ka kb => ?_)
            · refine fw_callSi hx hb hml hown hts hE hw [.int (v >>> (9 &&& 31)), .int (if ((v >>> (20 &&& 31)) &&& 1) = 0 then 10000000 else 300000)] [.int 1] (c_L_low l D A y sa f (v >>> (9 &&& 31)) (if ((v >>> (20 &&& 31)) &&& 1) = 0 then 10000000 else 300000) (by split <;> decide)) (va_cwS 2 hts gL_act_L_low rfl rfl rfl (by decide +kernel) ⟨Nat.le_of_ble_eq_true rfl, Nat.le_of_ble_eq_true rfl⟩) rfl hl.1 rfl (Nat.le_of_ble_eq_true rfl) dL_act_388 ⟨Nat.le_of_ble_eq_true rfl, Nat.le_of_ble_eq_true rfl⟩ (fun r31 f32 H locs hp33 hw => ?_)
              obtain ⟨hp33a, hp33b⟩ := hp33
              rw [hp33b] at hw
              rw [hp33a]
              refine lv_iadd hx hb dL_act_391 ?_
              refine lv_istore (lv' := [(9, .int ((1 : Int32) + (lowF (v >>> (9 &&& 31)) (if ((v >>> (20 &&& 31)) &&& 1) = 0 then 10000000 else 300000)))), (8, .int (lowF (v >>> (8 &&& 31)) (if ((v >>> (18 &&& 31)) &&& 1) = 0 then 20 else 4))), (7, .int (lowF (v >>> (15 &&& 31)) 101)), (6, .int (lowF (v >>> (12 &&& 31)) 101)), (5, .int (lowF (v >>> (9 &&& 31)) (if ((v >>> (19 &&& 31)) &&& 1) = 0 then 31 else 4))), (4, .int (lowF (v >>> (6 &&& 31)) 3)), (3, .int (lowF v 34)), (2, .int 0), (0, .ref (α 0 0 0)), (1, .int v)]) hx hb dL_act_392 hl (by decide) rfl (fun ls hl => ?_)
              refine lv_iload_n hx hb dL_act_394 rfl (lv_at hl 6 rfl) ?_
              refine lv_bipush (v := 26) hx hb dL_act_395 (by decide) ?_
              refine lv_icmp_ge (tgt := 536) hx hb dL_act_397 (by decide) (fun c_34 => ?_) (fun c_34 => ?_)
              · refine lv_iload_n hx hb dL_act_536 rfl (lv_at hl 6 rfl) ?_
                refine lv_bipush (v := 26) hx hb dL_act_537 (by decide) ?_
                refine lv_icmp_ne (tgt := 578) hx hb dL_act_539 (by decide) (fun c_35 => ?_) (fun c_35 => ?_)
                · refine lv_aload_n hx hb dL_act_578 rfl (lv_at hl 8 rfl) ?_
                  refine lv_bipush (v := 8) hx hb dL_act_579 (by decide) ?_
                  refine lv_iconst (v := 0) hx hb dL_act_581 (by decide) ?_
                  refine lv_iconst (v := 0) hx hb dL_act_582 (by decide) ?_
                  refine lv_iconst (v := 0) hx hb dL_act_583 (by decide) ?_
                  refine lv_iconst (v := 0) hx hb dL_act_584 (by decide) ?_
                  refine fw_callSH hx hb hml hown hts hE hw [.ref (α 0 0 0), .int 8, .int 0, .int 0, .int 0, .int 0] [] (c_L_does l D A y sa f hfl α S 8 0 0 0 0 hN hI hR) (vx_cwSW 6 hts gL_act_L_does rfl rfl rfl (by decide +kernel) ⟨Nat.le_of_ble_eq_true rfl, Nat.le_of_ble_eq_true rfl⟩) rfl hl.1 rfl (Nat.le_of_ble_eq_true rfl) dL_act_585 ⟨Nat.le_of_ble_eq_true rfl, Nat.le_of_ble_eq_true rfl⟩ (fun r36 f37 H locs hp38 hw => ?_)
                  exact fw_iret hx hb hr hlocks hw (Nat.le_of_ble_eq_true rfl) (Nat.le_of_ble_eq_true rfl) dL_act_588 (by rw [show actF v S = doesF 8 0 0 0 0 S from by rw [actF, if_neg c_4, actY, if_pos c_28, if_pos c_29, if_pos c_34, if_neg c_35]]; exact hp38)
                · refine lv_aload_n hx hb dL_act_542 rfl (lv_at hl 8 rfl) ?_
                  refine lv_iconst (v := 5) hx hb dL_act_543 (by decide) ?_
                  refine lv_iload_n hx hb dL_act_544 rfl (lv_at hl 7 rfl) ?_
                  refine lv_if_eq (tgt := 560) hx hb dL_act_545 (by decide) (fun _ => ?_) (fun c_39 => absurd c_39 (by decide))
                  refine lv_iload_n hx hb dL_act_560 rfl (lv_at hl 9 rfl) ?_
                  refine lv_bipush (v := 6) hx hb dL_act_561 (by decide) ?_
                  refine lv_ishr hx hb dL_act_563 ?_
                  refine lv_ldc (own := RL) (v := 90000) hx hb hown (hts (.constant RL 80 (90000)) (by decide +kernel)) dL_act_564 ?_
                  refine fw_callSi hx hb hml hown hts hE hw [.int (v >>> (6 &&& 31)), .int 90000] [.int 5, .ref (α 0 0 0)] (c_L_low l D A y sa f (v >>> (6 &&& 31)) 90000 (by decide)) (va_cwS 2 hts gL_act_L_low rfl rfl rfl (by decide +kernel) ⟨Nat.le_of_ble_eq_true rfl, Nat.le_of_ble_eq_true rfl⟩) rfl hl.1 rfl (Nat.le_of_ble_eq_true rfl) dL_act_566 ⟨Nat.le_of_ble_eq_true rfl, Nat.le_of_ble_eq_true rfl⟩ (fun r40 f41 H locs hp42 hw => ?_)
                  obtain ⟨hp42a, hp42b⟩ := hp42
                  rw [hp42b] at hw
                  rw [hp42a]
                  refine lv_iconst (v := 0) hx hb dL_act_569 (by decide) ?_
                  refine lv_iconst (v := 0) hx hb dL_act_570 (by decide) ?_
                  refine lv_iconst (v := 0) hx hb dL_act_571 (by decide) ?_
                  refine fw_callSH hx hb hml hown hts hE hw [.ref (α 0 0 0), .int 5, .int (lowF (v >>> (6 &&& 31)) 90000), .int 0, .int 0, .int 0] [] (c_L_does l D A y sa f hfl α S 5 (lowF (v >>> (6 &&& 31)) 90000) 0 0 0 hN hI hR) (vx_cwSW 6 hts gL_act_L_does rfl rfl rfl (by decide +kernel) ⟨Nat.le_of_ble_eq_true rfl, Nat.le_of_ble_eq_true rfl⟩) rfl hl.1 rfl (Nat.le_of_ble_eq_true rfl) dL_act_572 ⟨Nat.le_of_ble_eq_true rfl, Nat.le_of_ble_eq_true rfl⟩ (fun r43 f44 H locs hp45 hw => ?_)
                  refine lv_goto (tgt := 588) hx hb dL_act_575 (by decide) ?_
                  exact fw_iret hx hb hr hlocks hw (Nat.le_of_ble_eq_true rfl) (Nat.le_of_ble_eq_true rfl) dL_act_588 (by rw [show actF v S = doesF 5 (lowF (v >>> (6 &&& 31)) 90000) 0 0 0 S from by rw [actF, if_neg c_4, actY, if_pos c_28, if_pos c_29, if_pos c_34, if_pos c_35]]; exact hp45)
              · refine lv_iload_n hx hb dL_act_400 rfl (lv_at hl 6 rfl) ?_
                refine lv_bipush (v := 20) hx hb dL_act_401 (by decide) ?_
                refine lv_icmp_ge (tgt := 464) hx hb dL_act_403 (by decide) (fun c_46 => ?_) (fun c_46 => ?_)
                · refine lv_iload_n hx hb dL_act_464 rfl (lv_at hl 6 rfl) ?_
                  refine lv_bipush (v := 25) hx hb dL_act_465 (by decide) ?_
                  refine lv_icmp_ge (tgt := 508) hx hb dL_act_467 (by decide) (fun c_47 => ?_) (fun c_47 => ?_)
                  · refine lv_aload_n hx hb dL_act_508 rfl (lv_at hl 8 rfl) ?_
                    refine lv_bipush (v := 7) hx hb dL_act_509 (by decide) ?_
                    refine lv_iload_n hx hb dL_act_511 rfl (lv_at hl 9 rfl) ?_
                    refine lv_bipush (v := 6) hx hb dL_act_512 (by decide) ?_
                    refine lv_ishr hx hb dL_act_514 ?_
                    refine lv_iload_n hx hb dL_act_515 rfl (lv_at hl 7 rfl) ?_
                    refine lv_if_eq (tgt := 524) hx hb dL_act_516 (by decide) (fun _ => ?_) (fun c_48 => absurd c_48 (by decide))
                    refine lv_bipush (v := 12) hx hb dL_act_524 (by decide) ?_
                    refine fw_callSi hx hb hml hown hts hE hw [.int (v >>> (6 &&& 31)), .int 12] [.int 7, .ref (α 0 0 0)] (c_L_low l D A y sa f (v >>> (6 &&& 31)) 12 (by decide)) (va_cwS 2 hts gL_act_L_low rfl rfl rfl (by decide +kernel) ⟨Nat.le_of_ble_eq_true rfl, Nat.le_of_ble_eq_true rfl⟩) rfl hl.1 rfl (Nat.le_of_ble_eq_true rfl) dL_act_526 ⟨Nat.le_of_ble_eq_true rfl, Nat.le_of_ble_eq_true rfl⟩ (fun r49 f50 H locs hp51 hw => ?_)
                    obtain ⟨hp51a, hp51b⟩ := hp51
                    rw [hp51b] at hw
                    rw [hp51a]
                    refine lv_iconst (v := 0) hx hb dL_act_529 (by decide) ?_
                    refine lv_iconst (v := 0) hx hb dL_act_530 (by decide) ?_
                    refine lv_iconst (v := 0) hx hb dL_act_531 (by decide) ?_
                    refine fw_callSH hx hb hml hown hts hE hw [.ref (α 0 0 0), .int 7, .int (lowF (v >>> (6 &&& 31)) 12), .int 0, .int 0, .int 0] [] (c_L_does l D A y sa f hfl α S 7 (lowF (v >>> (6 &&& 31)) 12) 0 0 0 hN hI hR) (vx_cwSW 6 hts gL_act_L_does rfl rfl rfl (by decide +kernel) ⟨Nat.le_of_ble_eq_true rfl, Nat.le_of_ble_eq_true rfl⟩) rfl hl.1 rfl (Nat.le_of_ble_eq_true rfl) dL_act_532 ⟨Nat.le_of_ble_eq_true rfl, Nat.le_of_ble_eq_true rfl⟩ (fun r52 f53 H locs hp54 hw => ?_)
                    exact fw_iret hx hb hr hlocks hw (Nat.le_of_ble_eq_true rfl) (Nat.le_of_ble_eq_true rfl) dL_act_535 (by rw [show actF v S = doesF 7 (lowF (v >>> (6 &&& 31)) 12) 0 0 0 S from by rw [actF, if_neg c_4, actY, if_pos c_28, if_pos c_29, if_neg c_34, if_pos c_46, if_pos c_47]]; exact hp54)
                  · refine lv_aload_n hx hb dL_act_470 rfl (lv_at hl 8 rfl) ?_
                    refine lv_bipush (v := 6) hx hb dL_act_471 (by decide) ?_
                    refine lv_iload_n hx hb dL_act_473 rfl (lv_at hl 7 rfl) ?_
                    refine lv_if_eq (tgt := 490) hx hb dL_act_474 (by decide) (fun _ => ?_) (fun c_55 => absurd c_55 (by decide))
                    refine lv_iload_n hx hb dL_act_490 rfl (lv_at hl 9 rfl) ?_
                    refine lv_bipush (v := 6) hx hb dL_act_491 (by decide) ?_
                    refine lv_ishr hx hb dL_act_493 ?_
                    refine lv_iconst (v := 3) hx hb dL_act_494 (by decide) ?_
                    refine fw_callSi hx hb hml hown hts hE hw [.int (v >>> (6 &&& 31)), .int 3] [.int 6, .ref (α 0 0 0)] (c_L_low l D A y sa f (v >>> (6 &&& 31)) 3 (by decide)) (va_cwS 2 hts gL_act_L_low rfl rfl rfl (by decide +kernel) ⟨Nat.le_of_ble_eq_true rfl, Nat.le_of_ble_eq_true rfl⟩) rfl hl.1 rfl (Nat.le_of_ble_eq_true rfl) dL_act_495 ⟨Nat.le_of_ble_eq_true rfl, Nat.le_of_ble_eq_true rfl⟩ (fun r56 f57 H locs hp58 hw => ?_)
                    obtain ⟨hp58a, hp58b⟩ := hp58
                    rw [hp58b] at hw
                    rw [hp58a]
                    refine lv_iload hx hb dL_act_498 (lv_at hl 0 rfl) ?_
                    refine lv_iconst (v := 0) hx hb dL_act_500 (by decide) ?_
                    refine lv_iconst (v := 0) hx hb dL_act_501 (by decide) ?_
                    refine fw_callSH hx hb hml hown hts hE hw [.ref (α 0 0 0), .int 6, .int (lowF (v >>> (6 &&& 31)) 3), .int ((1 : Int32) + (lowF (v >>> (9 &&& 31)) (if ((v >>> (20 &&& 31)) &&& 1) = 0 then 10000000 else 300000))), .int 0, .int 0] [] (c_L_does l D A y sa f hfl α S 6 (lowF (v >>> (6 &&& 31)) 3) ((1 : Int32) + (lowF (v >>> (9 &&& 31)) (if ((v >>> (20 &&& 31)) &&& 1) = 0 then 10000000 else 300000))) 0 0 hN hI hR) (vx_cwSW 6 hts gL_act_L_does rfl rfl rfl (by decide +kernel) ⟨Nat.le_of_ble_eq_true rfl, Nat.le_of_ble_eq_true rfl⟩) rfl hl.1 rfl (Nat.le_of_ble_eq_true rfl) dL_act_502 ⟨Nat.le_of_ble_eq_true rfl, Nat.le_of_ble_eq_true rfl⟩ (fun r59 f60 H locs hp61 hw => ?_)
                    refine lv_goto (tgt := 535) hx hb dL_act_505 (by decide) ?_
                    exact fw_iret hx hb hr hlocks hw (Nat.le_of_ble_eq_true rfl) (Nat.le_of_ble_eq_true rfl) dL_act_535 (by rw [show actF v S = doesF 6 (lowF (v >>> (6 &&& 31)) 3) ((1 : Int32) + (lowF (v >>> (9 &&& 31)) (if ((v >>> (20 &&& 31)) &&& 1) = 0 then 10000000 else 300000))) 0 0 S from by rw [actF, if_neg c_4, actY, if_pos c_28, if_pos c_29, if_neg c_34, if_pos c_46, if_neg c_47]]; exact hp61)
                · refine lv_aload_n hx hb dL_act_406 rfl (lv_at hl 8 rfl) ?_
                  refine lv_iconst (v := 4) hx hb dL_act_407 (by decide) ?_
                  refine lv_iload hx hb dL_act_408 (lv_at hl 5 rfl) ?_
                  refine lv_iload_n hx hb dL_act_410 rfl (lv_at hl 7 rfl) ?_
                  refine lv_if_eq (tgt := 427) hx hb dL_act_411 (by decide) (fun _ => ?_) (fun c_62 => absurd c_62 (by decide))
                  refine lv_iload_n hx hb dL_act_427 rfl (lv_at hl 9 rfl) ?_
                  refine lv_bipush (v := 13) hx hb dL_act_428 (by decide) ?_
                  refine lv_ishr hx hb dL_act_430 ?_
                  refine lv_iconst (v := 3) hx hb dL_act_431 (by decide) ?_
                  refine fw_callSi hx hb hml hown hts hE hw [.int (v >>> (13 &&& 31)), .int 3] [.int (lowF (v >>> (6 &&& 31)) 3), .int 4, .ref (α 0 0 0)] (c_L_low l D A y sa f (v >>> (13 &&& 31)) 3 (by decide)) (va_cwS 2 hts gL_act_L_low rfl rfl rfl (by decide +kernel) ⟨Nat.le_of_ble_eq_true rfl, Nat.le_of_ble_eq_true rfl⟩) rfl hl.1 rfl (Nat.le_of_ble_eq_true rfl) dL_act_432 ⟨Nat.le_of_ble_eq_true rfl, Nat.le_of_ble_eq_true rfl⟩ (fun r63 f64 H locs hp65 hw => ?_)
                  obtain ⟨hp65a, hp65b⟩ := hp65
                  rw [hp65b] at hw
                  rw [hp65a]
                  refine lv_iload hx hb dL_act_435 (lv_at hl 0 rfl) ?_
                  refine lv_iconst (v := 1) hx hb dL_act_437 (by decide) ?_
                  refine lv_iload_n hx hb dL_act_438 rfl (lv_at hl 9 rfl) ?_
                  refine lv_bipush (v := 11) hx hb dL_act_439 (by decide) ?_
                  refine lv_ishr hx hb dL_act_441 ?_
                  refine lv_iload_n hx hb dL_act_442 rfl (lv_at hl 7 rfl) ?_
                  refine lv_if_eq (tgt := 451) hx hb dL_act_443 (by decide) (fun _ => ?_) (fun c_66 => absurd c_66 (by decide))
                  refine lv_sipush (v := 30000) hx hb dL_act_451 (by decide) ?_
                  refine fw_callSi hx hb hml hown hts hE hw [.int (v >>> (11 &&& 31)), .int 30000] [.int 1, .int ((1 : Int32) + (lowF (v >>> (9 &&& 31)) (if ((v >>> (20 &&& 31)) &&& 1) = 0 then 10000000 else 300000))), .int (lowF (v >>> (13 &&& 31)) 3), .int (lowF (v >>> (6 &&& 31)) 3), .int 4, .ref (α 0 0 0)] (c_L_low l D A y sa f (v >>> (11 &&& 31)) 30000 (by decide)) (va_cwS 2 hts gL_act_L_low rfl rfl rfl (by decide +kernel) ⟨Nat.le_of_ble_eq_true rfl, Nat.le_of_ble_eq_true rfl⟩) rfl hl.1 rfl (Nat.le_of_ble_eq_true rfl) dL_act_454 ⟨Nat.le_of_ble_eq_true rfl, Nat.le_of_ble_eq_true rfl⟩ (fun r67 f68 H locs hp69 hw => ?_)
                  obtain ⟨hp69a, hp69b⟩ := hp69
                  rw [hp69b] at hw
                  rw [hp69a]
                  refine lv_iadd hx hb dL_act_457 ?_
                  refine fw_callSH hx hb hml hown hts hE hw [.ref (α 0 0 0), .int 4, .int (lowF (v >>> (6 &&& 31)) 3), .int (lowF (v >>> (13 &&& 31)) 3), .int ((1 : Int32) + (lowF (v >>> (9 &&& 31)) (if ((v >>> (20 &&& 31)) &&& 1) = 0 then 10000000 else 300000))), .int ((1 : Int32) + (lowF (v >>> (11 &&& 31)) 30000))] [] (c_L_does l D A y sa f hfl α S 4 (lowF (v >>> (6 &&& 31)) 3) (lowF (v >>> (13 &&& 31)) 3) ((1 : Int32) + (lowF (v >>> (9 &&& 31)) (if ((v >>> (20 &&& 31)) &&& 1) = 0 then 10000000 else 300000))) ((1 : Int32) + (lowF (v >>> (11 &&& 31)) 30000)) hN hI hR) (vx_cwSW 6 hts gL_act_L_does rfl rfl rfl (by decide +kernel) ⟨Nat.le_of_ble_eq_true rfl, Nat.le_of_ble_eq_true rfl⟩) rfl hl.1 rfl (Nat.le_of_ble_eq_true rfl) dL_act_458 ⟨Nat.le_of_ble_eq_true rfl, Nat.le_of_ble_eq_true rfl⟩ (fun r70 f71 H locs hp72 hw => ?_)
                  refine lv_goto (tgt := 535) hx hb dL_act_461 (by decide) ?_
                  exact fw_iret hx hb hr hlocks hw (Nat.le_of_ble_eq_true rfl) (Nat.le_of_ble_eq_true rfl) dL_act_535 (by rw [show actF v S = doesF 4 (lowF (v >>> (6 &&& 31)) 3) (lowF (v >>> (13 &&& 31)) 3) ((1 : Int32) + (lowF (v >>> (9 &&& 31)) (if ((v >>> (20 &&& 31)) &&& 1) = 0 then 10000000 else 300000))) ((1 : Int32) + (lowF (v >>> (11 &&& 31)) 30000)) S from by rw [actF, if_neg c_4, actY, if_pos c_28, if_pos c_29, if_neg c_34, if_neg c_46]]; exact hp72)
            · refine lv_if_ne (tgt := 386) hx hb dL_act_378 (by decide) (fun c_73 => ?_) (fun c_73 => ?_)
              · refine lv_ldc (own := RL) (v := 300000) hx hb hown (hts (.constant RL 78 (300000)) (by decide +kernel)) dL_act_386 ?_
                exact kb c_73
              · refine lv_ldc (own := RL) (v := 10000000) hx hb hown (hts (.constant RL 77 (10000000)) (by decide +kernel)) dL_act_381 ?_
                refine lv_goto (tgt := 388) hx hb dL_act_383 (by decide) ?_
                exact ka c_73
          · refine lv_iload_n hx hb dL_act_244 rfl (lv_at hl 6 rfl) ?_
            refine lv_if_eq (tgt := 261) hx hb dL_act_245 (by decide) (fun _ => ?_) (fun c_74 => absurd c_74 (by decide))
            refine lv_iload_n hx hb dL_act_261 rfl (lv_at hl 8 rfl) ?_
            refine lv_bipush (v := 13) hx hb dL_act_262 (by decide) ?_
            refine lv_ishr hx hb dL_act_264 ?_
            refine lv_iconst (v := 3) hx hb dL_act_265 (by decide) ?_
            refine fw_callSi hx hb hml hown hts hE hw [.int (v >>> (13 &&& 31)), .int 3] [] (c_L_low l D A y sa f (v >>> (13 &&& 31)) 3 (by decide)) (va_cwS 2 hts gL_act_L_low rfl rfl rfl (by decide +kernel) ⟨Nat.le_of_ble_eq_true rfl, Nat.le_of_ble_eq_true rfl⟩) rfl hl.1 rfl (Nat.le_of_ble_eq_true rfl) dL_act_266 ⟨Nat.le_of_ble_eq_true rfl, Nat.le_of_ble_eq_true rfl⟩ (fun r75 f76 H locs hp77 hw => ?_)
            obtain ⟨hp77a, hp77b⟩ := hp77
            rw [hp77b] at hw
            rw [hp77a]
            refine lv_istore (lv' := [(9, .int (lowF (v >>> (13 &&& 31)) 3)), (8, .int (lowF (v >>> (8 &&& 31)) (if ((v >>> (18 &&& 31)) &&& 1) = 0 then 20 else 4))), (7, .int (lowF (v >>> (15 &&& 31)) 101)), (6, .int (lowF (v >>> (12 &&& 31)) 101)), (5, .int (lowF (v >>> (9 &&& 31)) (if ((v >>> (19 &&& 31)) &&& 1) = 0 then 31 else 4))), (4, .int (lowF (v >>> (6 &&& 31)) 3)), (3, .int (lowF v 34)), (2, .int 0), (0, .ref (α 0 0 0)), (1, .int v)]) hx hb dL_act_269 hl (by decide) rfl (fun ls hl => ?_)
            refine lv_iload_n hx hb dL_act_271 rfl (lv_at hl 6 rfl) ?_
            refine lv_bipush (v := 15) hx hb dL_act_272 (by decide) ?_
            refine lv_icmp_ge (tgt := 292) hx hb dL_act_274 (by decide) (fun c_78 => ?_) (fun c_78 => ?_)
            · refine lv_aload_n hx hb dL_act_292 rfl (lv_at hl 8 rfl) ?_
              refine lv_iconst (v := 2) hx hb dL_act_293 (by decide) ?_
              refine lv_iload hx hb dL_act_294 (lv_at hl 0 rfl) ?_
              refine lv_iload hx hb dL_act_296 (lv_at hl 4 rfl) ?_
              refine lv_iload_n hx hb dL_act_298 rfl (lv_at hl 7 rfl) ?_
              refine lv_if_eq (tgt := 315) hx hb dL_act_299 (by decide) (fun _ => ?_) (fun c_79 => absurd c_79 (by decide))
              refine lv_bipush (v := 100) hx hb dL_act_315 (by decide) ?_
              refine lv_iload_n hx hb dL_act_317 rfl (lv_at hl 9 rfl) ?_
              refine lv_bipush (v := 11) hx hb dL_act_318 (by decide) ?_
              refine lv_ishr hx hb dL_act_320 ?_
              refine lv_bipush (v := 101) hx hb dL_act_321 (by decide) ?_
              refine fw_callSi hx hb hml hown hts hE hw [.int (v >>> (11 &&& 31)), .int 101] [.int 100, .int (lowF (v >>> (9 &&& 31)) (if ((v >>> (19 &&& 31)) &&& 1) = 0 then 31 else 4)), .int (lowF (v >>> (13 &&& 31)) 3), .int 2, .ref (α 0 0 0)] (c_L_low l D A y sa f (v >>> (11 &&& 31)) 101 (by decide)) (va_cwS 2 hts gL_act_L_low rfl rfl rfl (by decide +kernel) ⟨Nat.le_of_ble_eq_true rfl, Nat.le_of_ble_eq_true rfl⟩) rfl hl.1 rfl (Nat.le_of_ble_eq_true rfl) dL_act_323 ⟨Nat.le_of_ble_eq_true rfl, Nat.le_of_ble_eq_true rfl⟩ (fun r80 f81 H locs hp82 hw => ?_)
              obtain ⟨hp82a, hp82b⟩ := hp82
              rw [hp82b] at hw
              rw [hp82a]
              refine lv_imul hx hb dL_act_326 ?_
              refine lv_iload_n hx hb dL_act_327 rfl (lv_at hl 9 rfl) ?_
              refine lv_bipush (v := 14) hx hb dL_act_328 (by decide) ?_
              refine lv_ishr hx hb dL_act_330 ?_
              refine lv_iload_n hx hb dL_act_331 rfl (lv_at hl 7 rfl) ?_
              refine lv_if_eq (tgt := 341) hx hb dL_act_332 (by decide) (fun _ => ?_) (fun c_83 => absurd c_83 (by decide))
              refine lv_sipush (v := 10001) hx hb dL_act_341 (by decide) ?_
              refine fw_callSi hx hb hml hown hts hE hw [.int (v >>> (14 &&& 31)), .int 10001] [.int ((100 : Int32) * (lowF (v >>> (11 &&& 31)) 101)), .int (lowF (v >>> (9 &&& 31)) (if ((v >>> (19 &&& 31)) &&& 1) = 0 then 31 else 4)), .int (lowF (v >>> (13 &&& 31)) 3), .int 2, .ref (α 0 0 0)] (c_L_low l D A y sa f (v >>> (14 &&& 31)) 10001 (by decide)) (va_cwS 2 hts gL_act_L_low rfl rfl rfl (by decide +kernel) ⟨Nat.le_of_ble_eq_true rfl, Nat.le_of_ble_eq_true rfl⟩) rfl hl.1 rfl (Nat.le_of_ble_eq_true rfl) dL_act_344 ⟨Nat.le_of_ble_eq_true rfl, Nat.le_of_ble_eq_true rfl⟩ (fun r84 f85 H locs hp86 hw => ?_)
              obtain ⟨hp86a, hp86b⟩ := hp86
              rw [hp86b] at hw
              rw [hp86a]
              refine fw_callSH hx hb hml hown hts hE hw [.ref (α 0 0 0), .int 2, .int (lowF (v >>> (13 &&& 31)) 3), .int (lowF (v >>> (9 &&& 31)) (if ((v >>> (19 &&& 31)) &&& 1) = 0 then 31 else 4)), .int ((100 : Int32) * (lowF (v >>> (11 &&& 31)) 101)), .int (lowF (v >>> (14 &&& 31)) 10001)] [] (c_L_does l D A y sa f hfl α S 2 (lowF (v >>> (13 &&& 31)) 3) (lowF (v >>> (9 &&& 31)) (if ((v >>> (19 &&& 31)) &&& 1) = 0 then 31 else 4)) ((100 : Int32) * (lowF (v >>> (11 &&& 31)) 101)) (lowF (v >>> (14 &&& 31)) 10001) hN hI hR) (vx_cwSW 6 hts gL_act_L_does rfl rfl rfl (by decide +kernel) ⟨Nat.le_of_ble_eq_true rfl, Nat.le_of_ble_eq_true rfl⟩) rfl hl.1 rfl (Nat.le_of_ble_eq_true rfl) dL_act_347 ⟨Nat.le_of_ble_eq_true rfl, Nat.le_of_ble_eq_true rfl⟩ (fun r87 f88 H locs hp89 hw => ?_)
              exact fw_iret hx hb hr hlocks hw (Nat.le_of_ble_eq_true rfl) (Nat.le_of_ble_eq_true rfl) dL_act_350 (by rw [show actF v S = doesF 2 (lowF (v >>> (13 &&& 31)) 3) (lowF (v >>> (9 &&& 31)) (if ((v >>> (19 &&& 31)) &&& 1) = 0 then 31 else 4)) ((100 : Int32) * (lowF (v >>> (11 &&& 31)) 101)) (lowF (v >>> (14 &&& 31)) 10001) S from by rw [actF, if_neg c_4, actY, if_pos c_28, if_neg c_29, if_pos c_78]]; exact hp89)
            · refine lv_aload_n hx hb dL_act_277 rfl (lv_at hl 8 rfl) ?_
              refine lv_iconst (v := 1) hx hb dL_act_278 (by decide) ?_
              refine lv_iload hx hb dL_act_279 (lv_at hl 5 rfl) ?_
              refine lv_iload hx hb dL_act_281 (lv_at hl 4 rfl) ?_
              refine lv_iload hx hb dL_act_283 (lv_at hl 0 rfl) ?_
              refine lv_iconst (v := 0) hx hb dL_act_285 (by decide) ?_
              refine fw_callSH hx hb hml hown hts hE hw [.ref (α 0 0 0), .int 1, .int (lowF (v >>> (6 &&& 31)) 3), .int (lowF (v >>> (9 &&& 31)) (if ((v >>> (19 &&& 31)) &&& 1) = 0 then 31 else 4)), .int (lowF (v >>> (13 &&& 31)) 3), .int 0] [] (c_L_does l D A y sa f hfl α S 1 (lowF (v >>> (6 &&& 31)) 3) (lowF (v >>> (9 &&& 31)) (if ((v >>> (19 &&& 31)) &&& 1) = 0 then 31 else 4)) (lowF (v >>> (13 &&& 31)) 3) 0 hN hI hR) (vx_cwSW 6 hts gL_act_L_does rfl rfl rfl (by decide +kernel) ⟨Nat.le_of_ble_eq_true rfl, Nat.le_of_ble_eq_true rfl⟩) rfl hl.1 rfl (Nat.le_of_ble_eq_true rfl) dL_act_286 ⟨Nat.le_of_ble_eq_true rfl, Nat.le_of_ble_eq_true rfl⟩ (fun r90 f91 H locs hp92 hw => ?_)
              refine lv_goto (tgt := 350) hx hb dL_act_289 (by decide) ?_
              exact fw_iret hx hb hr hlocks hw (Nat.le_of_ble_eq_true rfl) (Nat.le_of_ble_eq_true rfl) dL_act_350 (by rw [show actF v S = doesF 1 (lowF (v >>> (6 &&& 31)) 3) (lowF (v >>> (9 &&& 31)) (if ((v >>> (19 &&& 31)) &&& 1) = 0 then 31 else 4)) (lowF (v >>> (13 &&& 31)) 3) 0 S from by rw [actF, if_neg c_4, actY, if_pos c_28, if_neg c_29, if_neg c_78]]; exact hp92)
        · refine lv_iload_n hx hb dL_act_201 rfl (lv_at hl 5 rfl) ?_
          refine lv_bipush (v := 9) hx hb dL_act_202 (by decide) ?_
          refine lv_icmp_ge (tgt := 224) hx hb dL_act_204 (by decide) (fun c_93 => ?_) (fun c_93 => ?_)
          · refine lv_aload_n hx hb dL_act_224 rfl (lv_at hl 7 rfl) ?_
            refine lv_iconst (v := 3) hx hb dL_act_225 (by decide) ?_
            refine lv_iload hx hb dL_act_226 (lv_at hl 4 rfl) ?_
            refine lv_iload hx hb dL_act_228 (lv_at hl 0 rfl) ?_
            refine lv_iload hx hb dL_act_230 (lv_at hl 2 rfl) ?_
            refine lv_iload hx hb dL_act_232 (lv_at hl 1 rfl) ?_
            refine fw_callSH hx hb hml hown hts hE hw [.ref (α 0 0 0), .int 3, .int (lowF (v >>> (6 &&& 31)) 3), .int (lowF (v >>> (8 &&& 31)) (if ((v >>> (18 &&& 31)) &&& 1) = 0 then 20 else 4)), .int (lowF (v >>> (12 &&& 31)) 101), .int (lowF (v >>> (15 &&& 31)) 101)] [] (c_L_does l D A y sa f hfl α S 3 (lowF (v >>> (6 &&& 31)) 3) (lowF (v >>> (8 &&& 31)) (if ((v >>> (18 &&& 31)) &&& 1) = 0 then 20 else 4)) (lowF (v >>> (12 &&& 31)) 101) (lowF (v >>> (15 &&& 31)) 101) hN hI hR) (vx_cwSW 6 hts gL_act_L_does rfl rfl rfl (by decide +kernel) ⟨Nat.le_of_ble_eq_true rfl, Nat.le_of_ble_eq_true rfl⟩) rfl hl.1 rfl (Nat.le_of_ble_eq_true rfl) dL_act_234 ⟨Nat.le_of_ble_eq_true rfl, Nat.le_of_ble_eq_true rfl⟩ (fun r94 f95 H locs hp96 hw => ?_)
            exact fw_iret hx hb hr hlocks hw (Nat.le_of_ble_eq_true rfl) (Nat.le_of_ble_eq_true rfl) dL_act_237 (by rw [show actF v S = doesF 3 (lowF (v >>> (6 &&& 31)) 3) (lowF (v >>> (8 &&& 31)) (if ((v >>> (18 &&& 31)) &&& 1) = 0 then 20 else 4)) (lowF (v >>> (12 &&& 31)) 101) (lowF (v >>> (15 &&& 31)) 101) S from by rw [actF, if_neg c_4, actY, if_neg c_28, if_pos c_93]]; exact hp96)
          · refine lv_aload_n hx hb dL_act_207 rfl (lv_at hl 7 rfl) ?_
            refine lv_iload hx hb dL_act_208 (lv_at hl 4 rfl) ?_
            refine lv_iload hx hb dL_act_210 (lv_at hl 0 rfl) ?_
            refine lv_iload hx hb dL_act_212 (lv_at hl 3 rfl) ?_
            refine lv_iload hx hb dL_act_214 (lv_at hl 2 rfl) ?_
            refine lv_iload hx hb dL_act_216 (lv_at hl 1 rfl) ?_
            refine fw_callSH hx hb hml hown hts hE hw [.ref (α 0 0 0), .int (lowF (v >>> (6 &&& 31)) 3), .int (lowF (v >>> (8 &&& 31)) (if ((v >>> (18 &&& 31)) &&& 1) = 0 then 20 else 4)), .int (lowF (v >>> (9 &&& 31)) (if ((v >>> (19 &&& 31)) &&& 1) = 0 then 31 else 4)), .int (lowF (v >>> (12 &&& 31)) 101), .int (lowF (v >>> (15 &&& 31)) 101)] [] (c_L_come l D A y sa f hfl α S (lowF (v >>> (6 &&& 31)) 3) (lowF (v >>> (8 &&& 31)) (if ((v >>> (18 &&& 31)) &&& 1) = 0 then 20 else 4)) (lowF (v >>> (9 &&& 31)) (if ((v >>> (19 &&& 31)) &&& 1) = 0 then 31 else 4)) (lowF (v >>> (12 &&& 31)) 101) (lowF (v >>> (15 &&& 31)) 101) hI hR) (vx_cwSW 6 hts gL_act_L_come rfl rfl rfl (by decide +kernel) ⟨Nat.le_of_ble_eq_true rfl, Nat.le_of_ble_eq_true rfl⟩) rfl hl.1 rfl (Nat.le_of_ble_eq_true rfl) dL_act_218 ⟨Nat.le_of_ble_eq_true rfl, Nat.le_of_ble_eq_true rfl⟩ (fun r97 f98 H locs hp99 hw => ?_)
            refine lv_goto (tgt := 237) hx hb dL_act_221 (by decide) ?_
            exact fw_iret hx hb hr hlocks hw (Nat.le_of_ble_eq_true rfl) (Nat.le_of_ble_eq_true rfl) dL_act_237 (by rw [show actF v S = comeF (lowF (v >>> (6 &&& 31)) 3) (lowF (v >>> (8 &&& 31)) (if ((v >>> (18 &&& 31)) &&& 1) = 0 then 20 else 4)) (lowF (v >>> (9 &&& 31)) (if ((v >>> (19 &&& 31)) &&& 1) = 0 then 31 else 4)) (lowF (v >>> (12 &&& 31)) 101) (lowF (v >>> (15 &&& 31)) 101) S from by rw [actF, if_neg c_4, actY, if_neg c_28, if_neg c_93]]; exact hp99)
      · refine lv_if_ne (tgt := 189) hx hb dL_act_181 (by decide) (fun c_100 => ?_) (fun c_100 => ?_)
        · refine lv_iconst (v := 4) hx hb dL_act_189 (by decide) ?_
          exact kb c_100
        · refine lv_bipush (v := 20) hx hb dL_act_184 (by decide) ?_
          refine lv_goto (tgt := 190) hx hb dL_act_186 (by decide) ?_
          exact ka c_100
    · refine lv_if_ne (tgt := 89) hx hb dL_act_81 (by decide) (fun c_101 => ?_) (fun c_101 => ?_)
      · refine lv_iconst (v := 4) hx hb dL_act_89 (by decide) ?_
        exact kb c_101
      · refine lv_bipush (v := 31) hx hb dL_act_84 (by decide) ?_
        refine lv_goto (tgt := 90) hx hb dL_act_86 (by decide) ?_
        exact ka c_101
  · refine lv_iconst (v := 1) hx hb dL_act_12 (by decide) ?_
    refine lv_goto (tgt := 17) hx hb dL_act_13 (by decide) ?_
    refine lv_istore_n (lv' := [(2, .int 1), (0, .ref (α 0 0 0)), (1, .int v)]) hx hb dL_act_17 rfl hl (by decide) rfl (fun ls hl => ?_)
    refine lv_iload_n hx hb dL_act_18 rfl (lv_at hl 2 rfl) ?_
    refine lv_bipush (v := 34) hx hb dL_act_19 (by decide) ?_
    refine fw_callSi hx hb hml hown hts hE hw [.int v, .int 34] [] (c_L_low l D A y sa f v 34 (by decide)) (va_cwS 2 hts gL_act_L_low rfl rfl rfl (by decide +kernel) ⟨Nat.le_of_ble_eq_true rfl, Nat.le_of_ble_eq_true rfl⟩) rfl hl.1 rfl (Nat.le_of_ble_eq_true rfl) dL_act_21 ⟨Nat.le_of_ble_eq_true rfl, Nat.le_of_ble_eq_true rfl⟩ (fun r102 f103 H locs hp104 hw => ?_)
    obtain ⟨hp104a, hp104b⟩ := hp104
    rw [hp104b] at hw
    rw [hp104a]
    refine lv_istore_n (lv' := [(3, .int (lowF v 34)), (2, .int 1), (0, .ref (α 0 0 0)), (1, .int v)]) hx hb dL_act_24 rfl hl (by decide) rfl (fun ls hl => ?_)
    refine lv_iload_n hx hb dL_act_25 rfl (lv_at hl 1 rfl) ?_
    refine lv_if_eq (tgt := 43) hx hb dL_act_26 (by decide) (fun c_105 => absurd c_105 (by decide)) (fun _ => ?_)
    refine lv_iload_n hx hb dL_act_29 rfl (lv_at hl 3 rfl) ?_
    refine lv_bipush (v := 6) hx hb dL_act_30 (by decide) ?_
    refine lv_ishr hx hb dL_act_32 ?_
    refine lv_bipush (v := 10) hx hb dL_act_33 (by decide) ?_
    refine fw_callSi hx hb hml hown hts hE hw [.int (v >>> (6 &&& 31)), .int 10] [] (c_L_low l D A y sa f (v >>> (6 &&& 31)) 10 (by decide)) (va_cwS 2 hts gL_act_L_low rfl rfl rfl (by decide +kernel) ⟨Nat.le_of_ble_eq_true rfl, Nat.le_of_ble_eq_true rfl⟩) rfl hl.1 rfl (Nat.le_of_ble_eq_true rfl) dL_act_35 ⟨Nat.le_of_ble_eq_true rfl, Nat.le_of_ble_eq_true rfl⟩ (fun r106 f107 H locs hp108 hw => ?_)
    obtain ⟨hp108a, hp108b⟩ := hp108
    rw [hp108b] at hw
    rw [hp108a]
    refine lv_iconst (v := 1) hx hb dL_act_38 (by decide) ?_
    refine lv_isub hx hb dL_act_39 ?_
    refine lv_goto (tgt := 51) hx hb dL_act_40 (by decide) ?_
    refine lv_istore (lv' := [(4, .int ((lowF (v >>> (6 &&& 31)) 10) - 1)), (3, .int (lowF v 34)), (2, .int 1), (0, .ref (α 0 0 0)), (1, .int v)]) hx hb dL_act_51 hl (by decide) rfl (fun ls hl => ?_)
    refine lv_iload_n hx hb dL_act_53 rfl (lv_at hl 2 rfl) ?_
    refine lv_if_eq (tgt := 71) hx hb dL_act_54 (by decide) (fun c_109 => absurd c_109 (by decide)) (fun _ => ?_)
    refine lv_iload_n hx hb dL_act_57 rfl (lv_at hl 4 rfl) ?_
    refine lv_bipush (v := 9) hx hb dL_act_58 (by decide) ?_
    refine lv_ishr hx hb dL_act_60 ?_
    refine lv_bipush (v := 36) hx hb dL_act_61 (by decide) ?_
    refine fw_callSi hx hb hml hown hts hE hw [.int (v >>> (9 &&& 31)), .int 36] [] (c_L_low l D A y sa f (v >>> (9 &&& 31)) 36 (by decide)) (va_cwS 2 hts gL_act_L_low rfl rfl rfl (by decide +kernel) ⟨Nat.le_of_ble_eq_true rfl, Nat.le_of_ble_eq_true rfl⟩) rfl hl.1 rfl (Nat.le_of_ble_eq_true rfl) dL_act_63 ⟨Nat.le_of_ble_eq_true rfl, Nat.le_of_ble_eq_true rfl⟩ (fun r110 f111 H locs hp112 hw => ?_)
    obtain ⟨hp112a, hp112b⟩ := hp112
    rw [hp112b] at hw
    rw [hp112a]
    refine lv_iconst (v := 2) hx hb dL_act_66 (by decide) ?_
    refine lv_isub hx hb dL_act_67 ?_
    refine lv_goto (tgt := 93) hx hb dL_act_68 (by decide) ?_
    refine lv_istore (lv' := [(5, .int ((lowF (v >>> (9 &&& 31)) 36) - 2)), (4, .int ((lowF (v >>> (6 &&& 31)) 10) - 1)), (3, .int (lowF v 34)), (2, .int 1), (0, .ref (α 0 0 0)), (1, .int v)]) hx hb dL_act_93 hl (by decide) rfl (fun ls hl => ?_)
    refine lv_iload_n hx hb dL_act_95 rfl (lv_at hl 3 rfl) ?_
    refine lv_if_eq (tgt := 113) hx hb dL_act_96 (by decide) (fun c_113 => absurd c_113 (by decide)) (fun _ => ?_)
    refine lv_iload_n hx hb dL_act_99 rfl (lv_at hl 5 rfl) ?_
    refine lv_bipush (v := 12) hx hb dL_act_100 (by decide) ?_
    refine lv_ishr hx hb dL_act_102 ?_
    refine lv_bipush (v := 110) hx hb dL_act_103 (by decide) ?_
    refine fw_callSi hx hb hml hown hts hE hw [.int (v >>> (12 &&& 31)), .int 110] [] (c_L_low l D A y sa f (v >>> (12 &&& 31)) 110 (by decide)) (va_cwS 2 hts gL_act_L_low rfl rfl rfl (by decide +kernel) ⟨Nat.le_of_ble_eq_true rfl, Nat.le_of_ble_eq_true rfl⟩) rfl hl.1 rfl (Nat.le_of_ble_eq_true rfl) dL_act_105 ⟨Nat.le_of_ble_eq_true rfl, Nat.le_of_ble_eq_true rfl⟩ (fun r114 f115 H locs hp116 hw => ?_)
    obtain ⟨hp116a, hp116b⟩ := hp116
    rw [hp116b] at hw
    rw [hp116a]
    refine lv_iconst (v := 3) hx hb dL_act_108 (by decide) ?_
    refine lv_isub hx hb dL_act_109 ?_
    refine lv_goto (tgt := 122) hx hb dL_act_110 (by decide) ?_
    refine lv_istore (lv' := [(6, .int ((lowF (v >>> (12 &&& 31)) 110) - 3)), (5, .int ((lowF (v >>> (9 &&& 31)) 36) - 2)), (4, .int ((lowF (v >>> (6 &&& 31)) 10) - 1)), (3, .int (lowF v 34)), (2, .int 1), (0, .ref (α 0 0 0)), (1, .int v)]) hx hb dL_act_122 hl (by decide) rfl (fun ls hl => ?_)
    refine lv_iload_n hx hb dL_act_124 rfl (lv_at hl 4 rfl) ?_
    refine lv_if_eq (tgt := 142) hx hb dL_act_125 (by decide) (fun c_117 => absurd c_117 (by decide)) (fun _ => ?_)
    refine lv_iload_n hx hb dL_act_128 rfl (lv_at hl 6 rfl) ?_
    refine lv_bipush (v := 15) hx hb dL_act_129 (by decide) ?_
    refine lv_ishr hx hb dL_act_131 ?_
    refine lv_bipush (v := 110) hx hb dL_act_132 (by decide) ?_
    refine fw_callSi hx hb hml hown hts hE hw [.int (v >>> (15 &&& 31)), .int 110] [] (c_L_low l D A y sa f (v >>> (15 &&& 31)) 110 (by decide)) (va_cwS 2 hts gL_act_L_low rfl rfl rfl (by decide +kernel) ⟨Nat.le_of_ble_eq_true rfl, Nat.le_of_ble_eq_true rfl⟩) rfl hl.1 rfl (Nat.le_of_ble_eq_true rfl) dL_act_134 ⟨Nat.le_of_ble_eq_true rfl, Nat.le_of_ble_eq_true rfl⟩ (fun r118 f119 H locs hp120 hw => ?_)
    obtain ⟨hp120a, hp120b⟩ := hp120
    rw [hp120b] at hw
    rw [hp120a]
    refine lv_iconst (v := 3) hx hb dL_act_137 (by decide) ?_
    refine lv_isub hx hb dL_act_138 ?_
    refine lv_goto (tgt := 151) hx hb dL_act_139 (by decide) ?_
    refine lv_istore (lv' := [(7, .int ((lowF (v >>> (15 &&& 31)) 110) - 3)), (6, .int ((lowF (v >>> (12 &&& 31)) 110) - 3)), (5, .int ((lowF (v >>> (9 &&& 31)) 36) - 2)), (4, .int ((lowF (v >>> (6 &&& 31)) 10) - 1)), (3, .int (lowF v 34)), (2, .int 1), (0, .ref (α 0 0 0)), (1, .int v)]) hx hb dL_act_151 hl (by decide) rfl (fun ls hl => ?_)
    refine lv_iload_n hx hb dL_act_153 rfl (lv_at hl 5 rfl) ?_
    refine lv_if_eq (tgt := 171) hx hb dL_act_154 (by decide) (fun c_121 => absurd c_121 (by decide)) (fun _ => ?_)
    refine lv_iload_n hx hb dL_act_157 rfl (lv_at hl 7 rfl) ?_
    refine lv_bipush (v := 8) hx hb dL_act_158 (by decide) ?_
    refine lv_ishr hx hb dL_act_160 ?_
    refine lv_bipush (v := 24) hx hb dL_act_161 (by decide) ?_
    refine fw_callSi hx hb hml hown hts hE hw [.int (v >>> (8 &&& 31)), .int 24] [] (c_L_low l D A y sa f (v >>> (8 &&& 31)) 24 (by decide)) (va_cwS 2 hts gL_act_L_low rfl rfl rfl (by decide +kernel) ⟨Nat.le_of_ble_eq_true rfl, Nat.le_of_ble_eq_true rfl⟩) rfl hl.1 rfl (Nat.le_of_ble_eq_true rfl) dL_act_163 ⟨Nat.le_of_ble_eq_true rfl, Nat.le_of_ble_eq_true rfl⟩ (fun r122 f123 H locs hp124 hw => ?_)
    obtain ⟨hp124a, hp124b⟩ := hp124
    rw [hp124b] at hw
    rw [hp124a]
    refine lv_iconst (v := 2) hx hb dL_act_166 (by decide) ?_
    refine lv_isub hx hb dL_act_167 ?_
    refine lv_goto (tgt := 193) hx hb dL_act_168 (by decide) ?_
    refine lv_istore (lv' := [(8, .int ((lowF (v >>> (8 &&& 31)) 24) - 2)), (7, .int ((lowF (v >>> (15 &&& 31)) 110) - 3)), (6, .int ((lowF (v >>> (12 &&& 31)) 110) - 3)), (5, .int ((lowF (v >>> (9 &&& 31)) 36) - 2)), (4, .int ((lowF (v >>> (6 &&& 31)) 10) - 1)), (3, .int (lowF v 34)), (2, .int 1), (0, .ref (α 0 0 0)), (1, .int v)]) hx hb dL_act_193 hl (by decide) rfl (fun ls hl => ?_)
    refine lv_iload_n hx hb dL_act_195 rfl (lv_at hl 5 rfl) ?_
    refine lv_bipush (v := 13) hx hb dL_act_196 (by decide) ?_
    refine lv_icmp_ge (tgt := 238) hx hb dL_act_198 (by decide) (fun c_125 => ?_) (fun c_125 => ?_)
    · refine lv_iload_n hx hb dL_act_238 rfl (lv_at hl 5 rfl) ?_
      refine lv_bipush (v := 17) hx hb dL_act_239 (by decide) ?_
      refine lv_icmp_ge (tgt := 351) hx hb dL_act_241 (by decide) (fun c_126 => ?_) (fun c_126 => ?_)
      · refine lv_iload_n hx hb dL_act_351 rfl (lv_at hl 6 rfl) ?_
        refine lv_if_eq (tgt := 367) hx hb dL_act_352 (by decide) (fun c_127 => absurd c_127 (by decide)) (fun _ => ?_)
        refine lv_iload_n hx hb dL_act_355 rfl (lv_at hl 8 rfl) ?_
        refine lv_bipush (v := 9) hx hb dL_act_356 (by decide) ?_
        refine lv_ishr hx hb dL_act_358 ?_
        refine lv_ldc (own := RL) (v := 11000000) hx hb hown (hts (.constant RL 76 (11000000)) (by decide +kernel)) dL_act_359 ?_
        refine fw_callSi hx hb hml hown hts hE hw [.int (v >>> (9 &&& 31)), .int 11000000] [] (c_L_low l D A y sa f (v >>> (9 &&& 31)) 11000000 (by decide)) (va_cwS 2 hts gL_act_L_low rfl rfl rfl (by decide +kernel) ⟨Nat.le_of_ble_eq_true rfl, Nat.le_of_ble_eq_true rfl⟩) rfl hl.1 rfl (Nat.le_of_ble_eq_true rfl) dL_act_361 ⟨Nat.le_of_ble_eq_true rfl, Nat.le_of_ble_eq_true rfl⟩ (fun r128 f129 H locs hp130 hw => ?_)
        obtain ⟨hp130a, hp130b⟩ := hp130
        rw [hp130b] at hw
        rw [hp130a]
        refine lv_goto (tgt := 392) hx hb dL_act_364 (by decide) ?_
        refine lv_istore (lv' := [(9, .int (lowF (v >>> (9 &&& 31)) 11000000)), (8, .int ((lowF (v >>> (8 &&& 31)) 24) - 2)), (7, .int ((lowF (v >>> (15 &&& 31)) 110) - 3)), (6, .int ((lowF (v >>> (12 &&& 31)) 110) - 3)), (5, .int ((lowF (v >>> (9 &&& 31)) 36) - 2)), (4, .int ((lowF (v >>> (6 &&& 31)) 10) - 1)), (3, .int (lowF v 34)), (2, .int 1), (0, .ref (α 0 0 0)), (1, .int v)]) hx hb dL_act_392 hl (by decide) rfl (fun ls hl => ?_)
        refine lv_iload_n hx hb dL_act_394 rfl (lv_at hl 6 rfl) ?_
        refine lv_bipush (v := 26) hx hb dL_act_395 (by decide) ?_
        refine lv_icmp_ge (tgt := 536) hx hb dL_act_397 (by decide) (fun c_131 => ?_) (fun c_131 => ?_)
        · refine lv_iload_n hx hb dL_act_536 rfl (lv_at hl 6 rfl) ?_
          refine lv_bipush (v := 26) hx hb dL_act_537 (by decide) ?_
          refine lv_icmp_ne (tgt := 578) hx hb dL_act_539 (by decide) (fun c_132 => ?_) (fun c_132 => ?_)
          · refine lv_aload_n hx hb dL_act_578 rfl (lv_at hl 8 rfl) ?_
            refine lv_bipush (v := 8) hx hb dL_act_579 (by decide) ?_
            refine lv_iconst (v := 0) hx hb dL_act_581 (by decide) ?_
            refine lv_iconst (v := 0) hx hb dL_act_582 (by decide) ?_
            refine lv_iconst (v := 0) hx hb dL_act_583 (by decide) ?_
            refine lv_iconst (v := 0) hx hb dL_act_584 (by decide) ?_
            refine fw_callSH hx hb hml hown hts hE hw [.ref (α 0 0 0), .int 8, .int 0, .int 0, .int 0, .int 0] [] (c_L_does l D A y sa f hfl α S 8 0 0 0 0 hN hI hR) (vx_cwSW 6 hts gL_act_L_does rfl rfl rfl (by decide +kernel) ⟨Nat.le_of_ble_eq_true rfl, Nat.le_of_ble_eq_true rfl⟩) rfl hl.1 rfl (Nat.le_of_ble_eq_true rfl) dL_act_585 ⟨Nat.le_of_ble_eq_true rfl, Nat.le_of_ble_eq_true rfl⟩ (fun r133 f134 H locs hp135 hw => ?_)
            exact fw_iret hx hb hr hlocks hw (Nat.le_of_ble_eq_true rfl) (Nat.le_of_ble_eq_true rfl) dL_act_588 (by rw [show actF v S = doesF 8 0 0 0 0 S from by rw [actF, if_pos c_4, actX, if_pos c_125, if_pos c_126, if_pos c_131, if_neg c_132]]; exact hp135)
          · refine lv_aload_n hx hb dL_act_542 rfl (lv_at hl 8 rfl) ?_
            refine lv_iconst (v := 5) hx hb dL_act_543 (by decide) ?_
            refine lv_iload_n hx hb dL_act_544 rfl (lv_at hl 7 rfl) ?_
            refine lv_if_eq (tgt := 560) hx hb dL_act_545 (by decide) (fun c_136 => absurd c_136 (by decide)) (fun _ => ?_)
            refine lv_iload_n hx hb dL_act_548 rfl (lv_at hl 9 rfl) ?_
            refine lv_bipush (v := 6) hx hb dL_act_549 (by decide) ?_
            refine lv_ishr hx hb dL_act_551 ?_
            refine lv_ldc (own := RL) (v := 11000000) hx hb hown (hts (.constant RL 76 (11000000)) (by decide +kernel)) dL_act_552 ?_
            refine fw_callSi hx hb hml hown hts hE hw [.int (v >>> (6 &&& 31)), .int 11000000] [.int 5, .ref (α 0 0 0)] (c_L_low l D A y sa f (v >>> (6 &&& 31)) 11000000 (by decide)) (va_cwS 2 hts gL_act_L_low rfl rfl rfl (by decide +kernel) ⟨Nat.le_of_ble_eq_true rfl, Nat.le_of_ble_eq_true rfl⟩) rfl hl.1 rfl (Nat.le_of_ble_eq_true rfl) dL_act_554 ⟨Nat.le_of_ble_eq_true rfl, Nat.le_of_ble_eq_true rfl⟩ (fun r137 f138 H locs hp139 hw => ?_)
            obtain ⟨hp139a, hp139b⟩ := hp139
            rw [hp139b] at hw
            rw [hp139a]
            refine lv_goto (tgt := 569) hx hb dL_act_557 (by decide) ?_
            refine lv_iconst (v := 0) hx hb dL_act_569 (by decide) ?_
            refine lv_iconst (v := 0) hx hb dL_act_570 (by decide) ?_
            refine lv_iconst (v := 0) hx hb dL_act_571 (by decide) ?_
            refine fw_callSH hx hb hml hown hts hE hw [.ref (α 0 0 0), .int 5, .int (lowF (v >>> (6 &&& 31)) 11000000), .int 0, .int 0, .int 0] [] (c_L_does l D A y sa f hfl α S 5 (lowF (v >>> (6 &&& 31)) 11000000) 0 0 0 hN hI hR) (vx_cwSW 6 hts gL_act_L_does rfl rfl rfl (by decide +kernel) ⟨Nat.le_of_ble_eq_true rfl, Nat.le_of_ble_eq_true rfl⟩) rfl hl.1 rfl (Nat.le_of_ble_eq_true rfl) dL_act_572 ⟨Nat.le_of_ble_eq_true rfl, Nat.le_of_ble_eq_true rfl⟩ (fun r140 f141 H locs hp142 hw => ?_)
            refine lv_goto (tgt := 588) hx hb dL_act_575 (by decide) ?_
            exact fw_iret hx hb hr hlocks hw (Nat.le_of_ble_eq_true rfl) (Nat.le_of_ble_eq_true rfl) dL_act_588 (by rw [show actF v S = doesF 5 (lowF (v >>> (6 &&& 31)) 11000000) 0 0 0 S from by rw [actF, if_pos c_4, actX, if_pos c_125, if_pos c_126, if_pos c_131, if_pos c_132]]; exact hp142)
        · refine lv_iload_n hx hb dL_act_400 rfl (lv_at hl 6 rfl) ?_
          refine lv_bipush (v := 20) hx hb dL_act_401 (by decide) ?_
          refine lv_icmp_ge (tgt := 464) hx hb dL_act_403 (by decide) (fun c_143 => ?_) (fun c_143 => ?_)
          · refine lv_iload_n hx hb dL_act_464 rfl (lv_at hl 6 rfl) ?_
            refine lv_bipush (v := 25) hx hb dL_act_465 (by decide) ?_
            refine lv_icmp_ge (tgt := 508) hx hb dL_act_467 (by decide) (fun c_144 => ?_) (fun c_144 => ?_)
            · refine lv_aload_n hx hb dL_act_508 rfl (lv_at hl 8 rfl) ?_
              refine lv_bipush (v := 7) hx hb dL_act_509 (by decide) ?_
              refine lv_iload_n hx hb dL_act_511 rfl (lv_at hl 9 rfl) ?_
              refine lv_bipush (v := 6) hx hb dL_act_512 (by decide) ?_
              refine lv_ishr hx hb dL_act_514 ?_
              refine lv_iload_n hx hb dL_act_515 rfl (lv_at hl 7 rfl) ?_
              refine lv_if_eq (tgt := 524) hx hb dL_act_516 (by decide) (fun c_145 => absurd c_145 (by decide)) (fun _ => ?_)
              refine lv_bipush (v := 50) hx hb dL_act_519 (by decide) ?_
              refine lv_goto (tgt := 526) hx hb dL_act_521 (by decide) ?_
              refine fw_callSi hx hb hml hown hts hE hw [.int (v >>> (6 &&& 31)), .int 50] [.int 7, .ref (α 0 0 0)] (c_L_low l D A y sa f (v >>> (6 &&& 31)) 50 (by decide)) (va_cwS 2 hts gL_act_L_low rfl rfl rfl (by decide +kernel) ⟨Nat.le_of_ble_eq_true rfl, Nat.le_of_ble_eq_true rfl⟩) rfl hl.1 rfl (Nat.le_of_ble_eq_true rfl) dL_act_526 ⟨Nat.le_of_ble_eq_true rfl, Nat.le_of_ble_eq_true rfl⟩ (fun r146 f147 H locs hp148 hw => ?_)
              obtain ⟨hp148a, hp148b⟩ := hp148
              rw [hp148b] at hw
              rw [hp148a]
              refine lv_iconst (v := 0) hx hb dL_act_529 (by decide) ?_
              refine lv_iconst (v := 0) hx hb dL_act_530 (by decide) ?_
              refine lv_iconst (v := 0) hx hb dL_act_531 (by decide) ?_
              refine fw_callSH hx hb hml hown hts hE hw [.ref (α 0 0 0), .int 7, .int (lowF (v >>> (6 &&& 31)) 50), .int 0, .int 0, .int 0] [] (c_L_does l D A y sa f hfl α S 7 (lowF (v >>> (6 &&& 31)) 50) 0 0 0 hN hI hR) (vx_cwSW 6 hts gL_act_L_does rfl rfl rfl (by decide +kernel) ⟨Nat.le_of_ble_eq_true rfl, Nat.le_of_ble_eq_true rfl⟩) rfl hl.1 rfl (Nat.le_of_ble_eq_true rfl) dL_act_532 ⟨Nat.le_of_ble_eq_true rfl, Nat.le_of_ble_eq_true rfl⟩ (fun r149 f150 H locs hp151 hw => ?_)
              exact fw_iret hx hb hr hlocks hw (Nat.le_of_ble_eq_true rfl) (Nat.le_of_ble_eq_true rfl) dL_act_535 (by rw [show actF v S = doesF 7 (lowF (v >>> (6 &&& 31)) 50) 0 0 0 S from by rw [actF, if_pos c_4, actX, if_pos c_125, if_pos c_126, if_neg c_131, if_pos c_143, if_pos c_144]]; exact hp151)
            · refine lv_aload_n hx hb dL_act_470 rfl (lv_at hl 8 rfl) ?_
              refine lv_bipush (v := 6) hx hb dL_act_471 (by decide) ?_
              refine lv_iload_n hx hb dL_act_473 rfl (lv_at hl 7 rfl) ?_
              refine lv_if_eq (tgt := 490) hx hb dL_act_474 (by decide) (fun c_152 => absurd c_152 (by decide)) (fun _ => ?_)
              refine lv_iload_n hx hb dL_act_477 rfl (lv_at hl 9 rfl) ?_
              refine lv_bipush (v := 6) hx hb dL_act_478 (by decide) ?_
              refine lv_ishr hx hb dL_act_480 ?_
              refine lv_iconst (v := 5) hx hb dL_act_481 (by decide) ?_
              refine fw_callSi hx hb hml hown hts hE hw [.int (v >>> (6 &&& 31)), .int 5] [.int 6, .ref (α 0 0 0)] (c_L_low l D A y sa f (v >>> (6 &&& 31)) 5 (by decide)) (va_cwS 2 hts gL_act_L_low rfl rfl rfl (by decide +kernel) ⟨Nat.le_of_ble_eq_true rfl, Nat.le_of_ble_eq_true rfl⟩) rfl hl.1 rfl (Nat.le_of_ble_eq_true rfl) dL_act_482 ⟨Nat.le_of_ble_eq_true rfl, Nat.le_of_ble_eq_true rfl⟩ (fun r153 f154 H locs hp155 hw => ?_)
              obtain ⟨hp155a, hp155b⟩ := hp155
              rw [hp155b] at hw
              rw [hp155a]
              refine lv_iconst (v := 1) hx hb dL_act_485 (by decide) ?_
              refine lv_isub hx hb dL_act_486 ?_
              refine lv_goto (tgt := 498) hx hb dL_act_487 (by decide) ?_
              refine lv_iload hx hb dL_act_498 (lv_at hl 0 rfl) ?_
              refine lv_iconst (v := 0) hx hb dL_act_500 (by decide) ?_
              refine lv_iconst (v := 0) hx hb dL_act_501 (by decide) ?_
              refine fw_callSH hx hb hml hown hts hE hw [.ref (α 0 0 0), .int 6, .int ((lowF (v >>> (6 &&& 31)) 5) - 1), .int (lowF (v >>> (9 &&& 31)) 11000000), .int 0, .int 0] [] (c_L_does l D A y sa f hfl α S 6 ((lowF (v >>> (6 &&& 31)) 5) - 1) (lowF (v >>> (9 &&& 31)) 11000000) 0 0 hN hI hR) (vx_cwSW 6 hts gL_act_L_does rfl rfl rfl (by decide +kernel) ⟨Nat.le_of_ble_eq_true rfl, Nat.le_of_ble_eq_true rfl⟩) rfl hl.1 rfl (Nat.le_of_ble_eq_true rfl) dL_act_502 ⟨Nat.le_of_ble_eq_true rfl, Nat.le_of_ble_eq_true rfl⟩ (fun r156 f157 H locs hp158 hw => ?_)
              refine lv_goto (tgt := 535) hx hb dL_act_505 (by decide) ?_
              exact fw_iret hx hb hr hlocks hw (Nat.le_of_ble_eq_true rfl) (Nat.le_of_ble_eq_true rfl) dL_act_535 (by rw [show actF v S = doesF 6 ((lowF (v >>> (6 &&& 31)) 5) - 1) (lowF (v >>> (9 &&& 31)) 11000000) 0 0 S from by rw [actF, if_pos c_4, actX, if_pos c_125, if_pos c_126, if_neg c_131, if_pos c_143, if_neg c_144]]; exact hp158)
          · refine lv_aload_n hx hb dL_act_406 rfl (lv_at hl 8 rfl) ?_
            refine lv_iconst (v := 4) hx hb dL_act_407 (by decide) ?_
            refine lv_iload hx hb dL_act_408 (lv_at hl 5 rfl) ?_
            refine lv_iload_n hx hb dL_act_410 rfl (lv_at hl 7 rfl) ?_
            refine lv_if_eq (tgt := 427) hx hb dL_act_411 (by decide) (fun c_159 => absurd c_159 (by decide)) (fun _ => ?_)
            refine lv_iload_n hx hb dL_act_414 rfl (lv_at hl 9 rfl) ?_
            refine lv_bipush (v := 13) hx hb dL_act_415 (by decide) ?_
            refine lv_ishr hx hb dL_act_417 ?_
            refine lv_iconst (v := 5) hx hb dL_act_418 (by decide) ?_
            refine fw_callSi hx hb hml hown hts hE hw [.int (v >>> (13 &&& 31)), .int 5] [.int ((lowF (v >>> (6 &&& 31)) 10) - 1), .int 4, .ref (α 0 0 0)] (c_L_low l D A y sa f (v >>> (13 &&& 31)) 5 (by decide)) (va_cwS 2 hts gL_act_L_low rfl rfl rfl (by decide +kernel) ⟨Nat.le_of_ble_eq_true rfl, Nat.le_of_ble_eq_true rfl⟩) rfl hl.1 rfl (Nat.le_of_ble_eq_true rfl) dL_act_419 ⟨Nat.le_of_ble_eq_true rfl, Nat.le_of_ble_eq_true rfl⟩ (fun r160 f161 H locs hp162 hw => ?_)
            obtain ⟨hp162a, hp162b⟩ := hp162
            rw [hp162b] at hw
            rw [hp162a]
            refine lv_iconst (v := 1) hx hb dL_act_422 (by decide) ?_
            refine lv_isub hx hb dL_act_423 ?_
            refine lv_goto (tgt := 435) hx hb dL_act_424 (by decide) ?_
            refine lv_iload hx hb dL_act_435 (lv_at hl 0 rfl) ?_
            refine lv_iconst (v := 1) hx hb dL_act_437 (by decide) ?_
            refine lv_iload_n hx hb dL_act_438 rfl (lv_at hl 9 rfl) ?_
            refine lv_bipush (v := 11) hx hb dL_act_439 (by decide) ?_
            refine lv_ishr hx hb dL_act_441 ?_
            refine lv_iload_n hx hb dL_act_442 rfl (lv_at hl 7 rfl) ?_
            refine lv_if_eq (tgt := 451) hx hb dL_act_443 (by decide) (fun c_163 => absurd c_163 (by decide)) (fun _ => ?_)
            refine lv_ldc (own := RL) (v := 1100000) hx hb hown (hts (.constant RL 79 (1100000)) (by decide +kernel)) dL_act_446 ?_
            refine lv_goto (tgt := 454) hx hb dL_act_448 (by decide) ?_
            refine fw_callSi hx hb hml hown hts hE hw [.int (v >>> (11 &&& 31)), .int 1100000] [.int 1, .int (lowF (v >>> (9 &&& 31)) 11000000), .int ((lowF (v >>> (13 &&& 31)) 5) - 1), .int ((lowF (v >>> (6 &&& 31)) 10) - 1), .int 4, .ref (α 0 0 0)] (c_L_low l D A y sa f (v >>> (11 &&& 31)) 1100000 (by decide)) (va_cwS 2 hts gL_act_L_low rfl rfl rfl (by decide +kernel) ⟨Nat.le_of_ble_eq_true rfl, Nat.le_of_ble_eq_true rfl⟩) rfl hl.1 rfl (Nat.le_of_ble_eq_true rfl) dL_act_454 ⟨Nat.le_of_ble_eq_true rfl, Nat.le_of_ble_eq_true rfl⟩ (fun r164 f165 H locs hp166 hw => ?_)
            obtain ⟨hp166a, hp166b⟩ := hp166
            rw [hp166b] at hw
            rw [hp166a]
            refine lv_iadd hx hb dL_act_457 ?_
            refine fw_callSH hx hb hml hown hts hE hw [.ref (α 0 0 0), .int 4, .int ((lowF (v >>> (6 &&& 31)) 10) - 1), .int ((lowF (v >>> (13 &&& 31)) 5) - 1), .int (lowF (v >>> (9 &&& 31)) 11000000), .int ((1 : Int32) + (lowF (v >>> (11 &&& 31)) 1100000))] [] (c_L_does l D A y sa f hfl α S 4 ((lowF (v >>> (6 &&& 31)) 10) - 1) ((lowF (v >>> (13 &&& 31)) 5) - 1) (lowF (v >>> (9 &&& 31)) 11000000) ((1 : Int32) + (lowF (v >>> (11 &&& 31)) 1100000)) hN hI hR) (vx_cwSW 6 hts gL_act_L_does rfl rfl rfl (by decide +kernel) ⟨Nat.le_of_ble_eq_true rfl, Nat.le_of_ble_eq_true rfl⟩) rfl hl.1 rfl (Nat.le_of_ble_eq_true rfl) dL_act_458 ⟨Nat.le_of_ble_eq_true rfl, Nat.le_of_ble_eq_true rfl⟩ (fun r167 f168 H locs hp169 hw => ?_)
            refine lv_goto (tgt := 535) hx hb dL_act_461 (by decide) ?_
            exact fw_iret hx hb hr hlocks hw (Nat.le_of_ble_eq_true rfl) (Nat.le_of_ble_eq_true rfl) dL_act_535 (by rw [show actF v S = doesF 4 ((lowF (v >>> (6 &&& 31)) 10) - 1) ((lowF (v >>> (13 &&& 31)) 5) - 1) (lowF (v >>> (9 &&& 31)) 11000000) ((1 : Int32) + (lowF (v >>> (11 &&& 31)) 1100000)) S from by rw [actF, if_pos c_4, actX, if_pos c_125, if_pos c_126, if_neg c_131, if_neg c_143]]; exact hp169)
      · refine lv_iload_n hx hb dL_act_244 rfl (lv_at hl 6 rfl) ?_
        refine lv_if_eq (tgt := 261) hx hb dL_act_245 (by decide) (fun c_170 => absurd c_170 (by decide)) (fun _ => ?_)
        refine lv_iload_n hx hb dL_act_248 rfl (lv_at hl 8 rfl) ?_
        refine lv_bipush (v := 13) hx hb dL_act_249 (by decide) ?_
        refine lv_ishr hx hb dL_act_251 ?_
        refine lv_iconst (v := 5) hx hb dL_act_252 (by decide) ?_
        refine fw_callSi hx hb hml hown hts hE hw [.int (v >>> (13 &&& 31)), .int 5] [] (c_L_low l D A y sa f (v >>> (13 &&& 31)) 5 (by decide)) (va_cwS 2 hts gL_act_L_low rfl rfl rfl (by decide +kernel) ⟨Nat.le_of_ble_eq_true rfl, Nat.le_of_ble_eq_true rfl⟩) rfl hl.1 rfl (Nat.le_of_ble_eq_true rfl) dL_act_253 ⟨Nat.le_of_ble_eq_true rfl, Nat.le_of_ble_eq_true rfl⟩ (fun r171 f172 H locs hp173 hw => ?_)
        obtain ⟨hp173a, hp173b⟩ := hp173
        rw [hp173b] at hw
        rw [hp173a]
        refine lv_iconst (v := 1) hx hb dL_act_256 (by decide) ?_
        refine lv_isub hx hb dL_act_257 ?_
        refine lv_goto (tgt := 269) hx hb dL_act_258 (by decide) ?_
        refine lv_istore (lv' := [(9, .int ((lowF (v >>> (13 &&& 31)) 5) - 1)), (8, .int ((lowF (v >>> (8 &&& 31)) 24) - 2)), (7, .int ((lowF (v >>> (15 &&& 31)) 110) - 3)), (6, .int ((lowF (v >>> (12 &&& 31)) 110) - 3)), (5, .int ((lowF (v >>> (9 &&& 31)) 36) - 2)), (4, .int ((lowF (v >>> (6 &&& 31)) 10) - 1)), (3, .int (lowF v 34)), (2, .int 1), (0, .ref (α 0 0 0)), (1, .int v)]) hx hb dL_act_269 hl (by decide) rfl (fun ls hl => ?_)
        refine lv_iload_n hx hb dL_act_271 rfl (lv_at hl 6 rfl) ?_
        refine lv_bipush (v := 15) hx hb dL_act_272 (by decide) ?_
        refine lv_icmp_ge (tgt := 292) hx hb dL_act_274 (by decide) (fun c_174 => ?_) (fun c_174 => ?_)
        · refine lv_aload_n hx hb dL_act_292 rfl (lv_at hl 8 rfl) ?_
          refine lv_iconst (v := 2) hx hb dL_act_293 (by decide) ?_
          refine lv_iload hx hb dL_act_294 (lv_at hl 0 rfl) ?_
          refine lv_iload hx hb dL_act_296 (lv_at hl 4 rfl) ?_
          refine lv_iload_n hx hb dL_act_298 rfl (lv_at hl 7 rfl) ?_
          refine lv_if_eq (tgt := 315) hx hb dL_act_299 (by decide) (fun c_175 => absurd c_175 (by decide)) (fun _ => ?_)
          refine lv_iload_n hx hb dL_act_302 rfl (lv_at hl 9 rfl) ?_
          refine lv_bipush (v := 11) hx hb dL_act_303 (by decide) ?_
          refine lv_ishr hx hb dL_act_305 ?_
          refine lv_sipush (v := 11000) hx hb dL_act_306 (by decide) ?_
          refine fw_callSi hx hb hml hown hts hE hw [.int (v >>> (11 &&& 31)), .int 11000] [.int ((lowF (v >>> (9 &&& 31)) 36) - 2), .int ((lowF (v >>> (13 &&& 31)) 5) - 1), .int 2, .ref (α 0 0 0)] (c_L_low l D A y sa f (v >>> (11 &&& 31)) 11000 (by decide)) (va_cwS 2 hts gL_act_L_low rfl rfl rfl (by decide +kernel) ⟨Nat.le_of_ble_eq_true rfl, Nat.le_of_ble_eq_true rfl⟩) rfl hl.1 rfl (Nat.le_of_ble_eq_true rfl) dL_act_309 ⟨Nat.le_of_ble_eq_true rfl, Nat.le_of_ble_eq_true rfl⟩ (fun r176 f177 H locs hp178 hw => ?_)
          obtain ⟨hp178a, hp178b⟩ := hp178
          rw [hp178b] at hw
          rw [hp178a]
          refine lv_goto (tgt := 327) hx hb dL_act_312 (by decide) ?_
          refine lv_iload_n hx hb dL_act_327 rfl (lv_at hl 9 rfl) ?_
          refine lv_bipush (v := 14) hx hb dL_act_328 (by decide) ?_
          refine lv_ishr hx hb dL_act_330 ?_
          refine lv_iload_n hx hb dL_act_331 rfl (lv_at hl 7 rfl) ?_
          refine lv_if_eq (tgt := 341) hx hb dL_act_332 (by decide) (fun c_179 => absurd c_179 (by decide)) (fun _ => ?_)
          refine lv_sipush (v := 11000) hx hb dL_act_335 (by decide) ?_
          refine lv_goto (tgt := 344) hx hb dL_act_338 (by decide) ?_
          refine fw_callSi hx hb hml hown hts hE hw [.int (v >>> (14 &&& 31)), .int 11000] [.int (lowF (v >>> (11 &&& 31)) 11000), .int ((lowF (v >>> (9 &&& 31)) 36) - 2), .int ((lowF (v >>> (13 &&& 31)) 5) - 1), .int 2, .ref (α 0 0 0)] (c_L_low l D A y sa f (v >>> (14 &&& 31)) 11000 (by decide)) (va_cwS 2 hts gL_act_L_low rfl rfl rfl (by decide +kernel) ⟨Nat.le_of_ble_eq_true rfl, Nat.le_of_ble_eq_true rfl⟩) rfl hl.1 rfl (Nat.le_of_ble_eq_true rfl) dL_act_344 ⟨Nat.le_of_ble_eq_true rfl, Nat.le_of_ble_eq_true rfl⟩ (fun r180 f181 H locs hp182 hw => ?_)
          obtain ⟨hp182a, hp182b⟩ := hp182
          rw [hp182b] at hw
          rw [hp182a]
          refine fw_callSH hx hb hml hown hts hE hw [.ref (α 0 0 0), .int 2, .int ((lowF (v >>> (13 &&& 31)) 5) - 1), .int ((lowF (v >>> (9 &&& 31)) 36) - 2), .int (lowF (v >>> (11 &&& 31)) 11000), .int (lowF (v >>> (14 &&& 31)) 11000)] [] (c_L_does l D A y sa f hfl α S 2 ((lowF (v >>> (13 &&& 31)) 5) - 1) ((lowF (v >>> (9 &&& 31)) 36) - 2) (lowF (v >>> (11 &&& 31)) 11000) (lowF (v >>> (14 &&& 31)) 11000) hN hI hR) (vx_cwSW 6 hts gL_act_L_does rfl rfl rfl (by decide +kernel) ⟨Nat.le_of_ble_eq_true rfl, Nat.le_of_ble_eq_true rfl⟩) rfl hl.1 rfl (Nat.le_of_ble_eq_true rfl) dL_act_347 ⟨Nat.le_of_ble_eq_true rfl, Nat.le_of_ble_eq_true rfl⟩ (fun r183 f184 H locs hp185 hw => ?_)
          exact fw_iret hx hb hr hlocks hw (Nat.le_of_ble_eq_true rfl) (Nat.le_of_ble_eq_true rfl) dL_act_350 (by rw [show actF v S = doesF 2 ((lowF (v >>> (13 &&& 31)) 5) - 1) ((lowF (v >>> (9 &&& 31)) 36) - 2) (lowF (v >>> (11 &&& 31)) 11000) (lowF (v >>> (14 &&& 31)) 11000) S from by rw [actF, if_pos c_4, actX, if_pos c_125, if_neg c_126, if_pos c_174]]; exact hp185)
        · refine lv_aload_n hx hb dL_act_277 rfl (lv_at hl 8 rfl) ?_
          refine lv_iconst (v := 1) hx hb dL_act_278 (by decide) ?_
          refine lv_iload hx hb dL_act_279 (lv_at hl 5 rfl) ?_
          refine lv_iload hx hb dL_act_281 (lv_at hl 4 rfl) ?_
          refine lv_iload hx hb dL_act_283 (lv_at hl 0 rfl) ?_
          refine lv_iconst (v := 0) hx hb dL_act_285 (by decide) ?_
          refine fw_callSH hx hb hml hown hts hE hw [.ref (α 0 0 0), .int 1, .int ((lowF (v >>> (6 &&& 31)) 10) - 1), .int ((lowF (v >>> (9 &&& 31)) 36) - 2), .int ((lowF (v >>> (13 &&& 31)) 5) - 1), .int 0] [] (c_L_does l D A y sa f hfl α S 1 ((lowF (v >>> (6 &&& 31)) 10) - 1) ((lowF (v >>> (9 &&& 31)) 36) - 2) ((lowF (v >>> (13 &&& 31)) 5) - 1) 0 hN hI hR) (vx_cwSW 6 hts gL_act_L_does rfl rfl rfl (by decide +kernel) ⟨Nat.le_of_ble_eq_true rfl, Nat.le_of_ble_eq_true rfl⟩) rfl hl.1 rfl (Nat.le_of_ble_eq_true rfl) dL_act_286 ⟨Nat.le_of_ble_eq_true rfl, Nat.le_of_ble_eq_true rfl⟩ (fun r186 f187 H locs hp188 hw => ?_)
          refine lv_goto (tgt := 350) hx hb dL_act_289 (by decide) ?_
          exact fw_iret hx hb hr hlocks hw (Nat.le_of_ble_eq_true rfl) (Nat.le_of_ble_eq_true rfl) dL_act_350 (by rw [show actF v S = doesF 1 ((lowF (v >>> (6 &&& 31)) 10) - 1) ((lowF (v >>> (9 &&& 31)) 36) - 2) ((lowF (v >>> (13 &&& 31)) 5) - 1) 0 S from by rw [actF, if_pos c_4, actX, if_pos c_125, if_neg c_126, if_neg c_174]]; exact hp188)
    · refine lv_iload_n hx hb dL_act_201 rfl (lv_at hl 5 rfl) ?_
      refine lv_bipush (v := 9) hx hb dL_act_202 (by decide) ?_
      refine lv_icmp_ge (tgt := 224) hx hb dL_act_204 (by decide) (fun c_189 => ?_) (fun c_189 => ?_)
      · refine lv_aload_n hx hb dL_act_224 rfl (lv_at hl 7 rfl) ?_
        refine lv_iconst (v := 3) hx hb dL_act_225 (by decide) ?_
        refine lv_iload hx hb dL_act_226 (lv_at hl 4 rfl) ?_
        refine lv_iload hx hb dL_act_228 (lv_at hl 0 rfl) ?_
        refine lv_iload hx hb dL_act_230 (lv_at hl 2 rfl) ?_
        refine lv_iload hx hb dL_act_232 (lv_at hl 1 rfl) ?_
        refine fw_callSH hx hb hml hown hts hE hw [.ref (α 0 0 0), .int 3, .int ((lowF (v >>> (6 &&& 31)) 10) - 1), .int ((lowF (v >>> (8 &&& 31)) 24) - 2), .int ((lowF (v >>> (12 &&& 31)) 110) - 3), .int ((lowF (v >>> (15 &&& 31)) 110) - 3)] [] (c_L_does l D A y sa f hfl α S 3 ((lowF (v >>> (6 &&& 31)) 10) - 1) ((lowF (v >>> (8 &&& 31)) 24) - 2) ((lowF (v >>> (12 &&& 31)) 110) - 3) ((lowF (v >>> (15 &&& 31)) 110) - 3) hN hI hR) (vx_cwSW 6 hts gL_act_L_does rfl rfl rfl (by decide +kernel) ⟨Nat.le_of_ble_eq_true rfl, Nat.le_of_ble_eq_true rfl⟩) rfl hl.1 rfl (Nat.le_of_ble_eq_true rfl) dL_act_234 ⟨Nat.le_of_ble_eq_true rfl, Nat.le_of_ble_eq_true rfl⟩ (fun r190 f191 H locs hp192 hw => ?_)
        exact fw_iret hx hb hr hlocks hw (Nat.le_of_ble_eq_true rfl) (Nat.le_of_ble_eq_true rfl) dL_act_237 (by rw [show actF v S = doesF 3 ((lowF (v >>> (6 &&& 31)) 10) - 1) ((lowF (v >>> (8 &&& 31)) 24) - 2) ((lowF (v >>> (12 &&& 31)) 110) - 3) ((lowF (v >>> (15 &&& 31)) 110) - 3) S from by rw [actF, if_pos c_4, actX, if_neg c_125, if_pos c_189]]; exact hp192)
      · refine lv_aload_n hx hb dL_act_207 rfl (lv_at hl 7 rfl) ?_
        refine lv_iload hx hb dL_act_208 (lv_at hl 4 rfl) ?_
        refine lv_iload hx hb dL_act_210 (lv_at hl 0 rfl) ?_
        refine lv_iload hx hb dL_act_212 (lv_at hl 3 rfl) ?_
        refine lv_iload hx hb dL_act_214 (lv_at hl 2 rfl) ?_
        refine lv_iload hx hb dL_act_216 (lv_at hl 1 rfl) ?_
        refine fw_callSH hx hb hml hown hts hE hw [.ref (α 0 0 0), .int ((lowF (v >>> (6 &&& 31)) 10) - 1), .int ((lowF (v >>> (8 &&& 31)) 24) - 2), .int ((lowF (v >>> (9 &&& 31)) 36) - 2), .int ((lowF (v >>> (12 &&& 31)) 110) - 3), .int ((lowF (v >>> (15 &&& 31)) 110) - 3)] [] (c_L_come l D A y sa f hfl α S ((lowF (v >>> (6 &&& 31)) 10) - 1) ((lowF (v >>> (8 &&& 31)) 24) - 2) ((lowF (v >>> (9 &&& 31)) 36) - 2) ((lowF (v >>> (12 &&& 31)) 110) - 3) ((lowF (v >>> (15 &&& 31)) 110) - 3) hI hR) (vx_cwSW 6 hts gL_act_L_come rfl rfl rfl (by decide +kernel) ⟨Nat.le_of_ble_eq_true rfl, Nat.le_of_ble_eq_true rfl⟩) rfl hl.1 rfl (Nat.le_of_ble_eq_true rfl) dL_act_218 ⟨Nat.le_of_ble_eq_true rfl, Nat.le_of_ble_eq_true rfl⟩ (fun r193 f194 H locs hp195 hw => ?_)
        refine lv_goto (tgt := 237) hx hb dL_act_221 (by decide) ?_
        exact fw_iret hx hb hr hlocks hw (Nat.le_of_ble_eq_true rfl) (Nat.le_of_ble_eq_true rfl) dL_act_237 (by rw [show actF v S = comeF ((lowF (v >>> (6 &&& 31)) 10) - 1) ((lowF (v >>> (8 &&& 31)) 24) - 2) ((lowF (v >>> (9 &&& 31)) 36) - 2) ((lowF (v >>> (12 &&& 31)) 110) - 3) ((lowF (v >>> (15 &&& 31)) 110) - 3) S from by rw [actF, if_pos c_4, actX, if_neg c_125, if_neg c_189]]; exact hp195)
