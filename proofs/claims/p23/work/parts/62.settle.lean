/-! GARNISHING AND CLOSING: sums and ranges -/
theorem gS_upd {h h2 : Nat → Int32} {q : Nat} : ∀ n, q < n → (∀ k, k ≠ q → h2 k = h k) → gS h2 n = gS h n + (h2 q - h q)
  | 0, h, _ => absurd h (Nat.not_lt_zero _)
  | n + 1, hq, he => by
    show gS h2 n + h2 n = gS h n + h n + (h2 q - h q)
    by_cases z : n = q
    · subst z
      rw [gS_eq (a := h2) (b := h) n (fun k hk => he k (by omega))]
      grind
    · rw [gS_upd n (by omega) he, he n z]
      grind
theorem i_max0 {a : Int32} : (if (0 : Int32) < a then a else 0).toInt = max 0 a.toInt := by
  by_cases z : (0 : Int32) < a
  · rw [if_pos z]
    rw [Int32.lt_iff_toInt_lt, i_0] at z
    omega
  · rw [if_neg z]
    rw [Int32.lt_iff_toInt_lt, i_0] at z
    rw [i_0]
    omega
theorem pv_toInt {t l m : Int32} : (payv t l m).toInt = max 0 (min (min m.toInt l.toInt) t.toInt) := by
  have e : payv t l m = if (0 : Int32) < lst (lst m l) t then lst (lst m l) t else 0 := rfl
  rw [e, i_max0, lst_toInt, lst_toInt]
section GAR
variable {κ0 : cS} {no w : Nat} {a : Int32}
/-- what holds while orders are paid off -/
def gA (κ0 : cS) (no : Nat) (a : Int32) (S : cS × Int32) : Prop := oK κ0 S.1 ∧ (∀ i, i < no → 0 ≤ (S.1 15 i 2).toInt) ∧ 0 ≤ S.2.toInt ∧ S.2.toInt ≤ max 0 a.toInt ∧ gS (fun i => S.1 15 i 2) no + S.2 = gS (fun i => κ0 15 i 2) no
theorem gA_go (h3 : ∀ i, i < no → 0 ≤ (κ0 15 i 3).toInt) (ha0 : -10000000 ≤ a.toInt) (ha1 : a.toInt ≤ 40000000) {g : Nat} {S : cS × Int32} (h : gA κ0 no a S) : ∀ i, gA κ0 no a (goC no w a g S i)
  | 0 => h
  | i + 1 => by
    have ih := gA_go h3 ha0 ha1 (g := g) h i
    unfold goC
    by_cases z : i < no ∧ (goC no w a g S i).1 15 i 0 = nI w ∧ (goC no w a g S i).1 15 i 1 = nI g
    · rw [if_pos z]
      obtain ⟨T, eT⟩ : ∃ z, z = goC no w a g S i := ⟨_, rfl⟩
      rw [← eT] at ih ⊢
      obtain ⟨b1, b2, b3, b4, b5⟩ := ih
      have hi := z.1
      have l0 := b2 i hi
      have m0 : 0 ≤ (T.1 15 i 3).toInt := by rw [b1.2 i 3 (by decide)]; exact h3 i hi
      have pv := pv_toInt (t := a - T.2) (l := T.1 15 i 2) (m := T.1 15 i 3)
      have et : (a - T.2).toInt = a.toInt - T.2.toInt := i_sub (by omega) (by omega)
      obtain ⟨p, ep⟩ : ∃ z, z = payv (a - T.2) (T.1 15 i 2) (T.1 15 i 3) := ⟨_, rfl⟩
      rw [← ep, et] at pv
      rw [← ep]
      have e1 : (T.1 15 i 2 - p).toInt = (T.1 15 i 2).toInt - p.toInt := i_sub (by omega) (by have := (T.1 15 i 2).toInt_lt; omega)
      have e2 : (T.2 + p).toInt = T.2.toInt + p.toInt := i_add (by omega) (by omega)
      refine ⟨b1.up i _, fun j hj => ?_, ?_, ?_, ?_⟩
      · show 0 ≤ (upF T.1 15 i (va_up (T.1 15 i) 2 (T.1 15 i 2 - p)) 15 j 2).toInt
        by_cases q : j = i
        · subst q
          rw [upF_s, va_up_s, e1]
          omega
        · rw [upF_i q]
          exact b2 j hj
      · show 0 ≤ (T.2 + p).toInt
        rw [e2]; omega
      · show (T.2 + p).toInt ≤ _
        rw [e2]; omega
      · show gS (fun j => upF T.1 15 i (va_up (T.1 15 i) 2 (T.1 15 i 2 - p)) 15 j 2) no + (T.2 + p) = _
        rw [gS_upd (h := fun j => T.1 15 j 2) no hi (fun k hk => by rw [upF_i hk])]
        try dsimp only
        rw [upF_s, va_up_s, ← b5]
        grind
    · rw [if_neg z]
      exact ih
theorem gA_ga (h3 : ∀ i, i < no → 0 ≤ (κ0 15 i 3).toInt) (ha0 : -10000000 ≤ a.toInt) (ha1 : a.toInt ≤ 40000000) {S : cS × Int32} (h : gA κ0 no a S) : ∀ g, gA κ0 no a (gaC no w a S g)
  | 0 => h
  | g + 1 => gA_go h3 ha0 ha1 (gA_ga h3 ha0 ha1 h g) 20
end GAR
def P3 (κ : cS) : Int32 := κ 1 0 0 + κ 1 1 0 + κ 1 2 0
/-- what one worker's settling does -/
def jT (κ κ2 : cS) (nw no nt wk w : Nat) (r : Int32) : Prop := jW κ2 w (wk + 1) ∧ (∀ i, i ≠ w → ∀ k, k = 4 ∨ (7 ≤ k ∧ k ≤ 14) → κ2 k i = κ k i) ∧ κ2 2 = κ 2 ∧ jO κ2 no ∧ jP κ2 nt ∧
  gS (fun k => κ2 15 k 2) no + spC κ2 w wk 2 = gS (fun k => κ 15 k 2) no ∧ P3 κ2 + (spC κ2 w wk 0 - spC κ2 w wk 1) = P3 κ ∧ r = (if (0 : Int32) < spC κ2 w wk 0 then 1 else 0)
section SET
variable {κ : cS} {nw no nt wk w : Nat}
theorem sp_none (h : ¬ κ 10 w wk = 1) (p : Nat) : spC κ w wk p = 0 := if_neg h
theorem set_none (h : jW κ w wk) (hk : wk < 31) (hO : jO κ no) (hP : jP κ nt) : jT κ κ nw no nt wk w 0 := by
  have hn := h.2.2.2.1 wk (Nat.le_refl _) hk
  refine ⟨h.cg (Nat.le_succ _) (fun _ _ => rfl), fun _ _ _ _ => rfl, rfl, hO, hP, ?_, ?_, ?_⟩
  · rw [sp_none hn 2, Int32.add_zero]
  · rw [sp_none hn 0, sp_none hn 1, Int32.sub_zero, Int32.add_zero]
  · rw [sp_none hn 0]; rfl
theorem set_owe (h : jW κ w wk) (hk : wk < 31) (hO : jO κ no) (hP : jP κ nt) (hd0 : 0 ≤ (duC κ w 0 (nI wk)).toInt) (hd1 : (duC κ w 0 (nI wk)).toInt ≤ 40000000) (hc : clC κ wk w < 0) :
    jT κ (upF κ 4 w (va_up (va_up (va_up (κ 4 w) 2 (κ 4 w 2 - -clC κ wk w)) 3 (κ 4 w 3 + -clC κ wk w)) 4 (κ 4 w 4 + -clC κ wk w))) nw no nt wk w 0 := by
  obtain ⟨⟨⟨a1, a2⟩, a3, a4⟩, b, c, d, f, g⟩ := h
  have hn := d wk (Nat.le_refl _) hk
  have ecl : clC κ wk w = duC κ w 0 (nI wk) - κ 4 w 2 := rfl
  obtain ⟨cl, eC⟩ : ∃ z, z = clC κ wk w := ⟨_, rfl⟩
  rw [← eC] at hc ecl ⊢
  have tcl : cl.toInt = (duC κ w 0 (nI wk)).toInt - (κ 4 w 2).toInt := by rw [ecl]; exact i_sub (by omega) (by omega)
  rw [Int32.lt_iff_toInt_lt, i_0] at hc
  have hne : (-cl).toInt = -cl.toInt := i_neg (by omega)
  obtain ⟨x, ex⟩ : ∃ z, z = -cl := ⟨_, rfl⟩
  rw [← ex] at hne ⊢
  have e2 : κ 4 w 2 - x = duC κ w 0 (nI wk) := by rw [ex, ecl]; grind
  have e3 : (κ 4 w 3 + x).toInt = (κ 4 w 3).toInt + x.toInt := i_add (by omega) (by omega)
  have kk : ∀ k, k ≠ 4 → upF κ 4 w (va_up (va_up (va_up (κ 4 w) 2 (κ 4 w 2 - x)) 3 (κ 4 w 3 + x)) 4 (κ 4 w 4 + x)) k = κ k := fun k hk => funext fun _ => upF_k hk
  have k4 : upF κ 4 w (va_up (va_up (va_up (κ 4 w) 2 (κ 4 w 2 - x)) 3 (κ 4 w 3 + x)) 4 (κ 4 w 4 + x)) 4 w = va_up (va_up (va_up (κ 4 w) 2 (κ 4 w 2 - x)) 3 (κ 4 w 3 + x)) 4 (κ 4 w 4 + x) := upF_s
  have ki : ∀ i, i ≠ w → ∀ k, upF κ 4 w (va_up (va_up (va_up (κ 4 w) 2 (κ 4 w 2 - x)) 3 (κ 4 w 3 + x)) 4 (κ 4 w 4 + x)) k i = κ k i := fun i hi k => upF_i hi
  obtain ⟨κ2, eK⟩ : ∃ z, z = upF κ 4 w (va_up (va_up (va_up (κ 4 w) 2 (κ 4 w 2 - x)) 3 (κ 4 w 3 + x)) 4 (κ 4 w 4 + x)) := ⟨_, rfl⟩
  rw [← eK] at kk k4 ki ⊢
  have hs : ∀ k p, spC κ2 w k p = spC κ w k p := fun k p => by
    unfold spC
    rw [kk 10 (by decide), kk (11 + p) (by omega)]
  have q2 : κ2 4 w 2 = κ 4 w 2 - x := by rw [k4]; exact ow_2
  have q3 : κ2 4 w 3 = κ 4 w 3 + x := by rw [k4]; exact ow_3
  have q4 : κ2 4 w 4 = κ 4 w 4 + x := by rw [k4]; exact ow_4
  have hn2 : ¬ κ2 10 w wk = 1 := by rw [kk 10 (by decide)]; exact hn
  refine ⟨⟨⟨?_, ?_⟩, fun s hs2 z => ?_, fun k hk => ?_, fun k k1 k2 => by rw [kk 10 (by decide)]; exact d k (by omega) k2, ?_, ?_⟩, fun i hi k _ => ki i hi k, kk 2 (by decide), hO.cg (kk 15 (by decide)) (kk 0 (by decide)), hP.cg (kk 1 (by decide)) (kk 16 (by decide)), ?_, ?_, ?_⟩
  · rw [q2, e2]; exact ⟨hd0, hd1⟩
  · rw [q3, e3]; omega
  · rw [kk 7 (by decide)] at z
    rw [kk 8 (by decide), kk 9 (by decide)]
    exact b s hs2 z
  · unfold sOk
    rw [hs k 0, hs k 1, hs k 2, hs k 3]
    exact c k hk
  · rw [q2, q4, gS_eq 31 (fun k _ => hs k 0), ← f]
    grind
  · rw [q3, q4, gS_eq 31 (fun k _ => hs k 1), ← g]
    grind
  · rw [sp_none hn2 2, Int32.add_zero, kk 15 (by decide)]
  · rw [sp_none hn2 0, sp_none hn2 1, Int32.sub_zero, Int32.add_zero]
    unfold P3
    rw [kk 1 (by decide)]
  · rw [sp_none hn2 0]; rfl
theorem set_pay (h : jW κ w wk) (hk : wk < 31) (hO : jO κ no) (hP : jP κ nt) {ev : Nat} (hev : ev < 3) {c : Int32} (ec : c = duC κ w 0 (nI wk) - κ 4 w 2) (hd0 : 0 ≤ (duC κ w 0 (nI wk)).toInt) (hd1 : (duC κ w 0 (nI wk)).toInt ≤ 40000000) (hc : 0 < c.toInt) (hpot : c.toInt ≤ (κ 1 ev 0).toInt) :
    jT κ (payK κ no wk w ev c) nw no nt wk w 1 := by
  obtain ⟨⟨⟨a1, a2⟩, a3, a4⟩, b, hsl, d, f, g⟩ := h
  have hn := d wk (Nat.le_refl _) hk
  have tcl : c.toInt = (duC κ w 0 (nI wk)).toInt - (κ 4 w 2).toInt := by rw [ec]; exact i_sub (by omega) (by omega)
  have hd := i_div10 (g := c) (by omega)
  have htk : tkC κ w c = lst (c / 10) (κ 4 w 3) := rfl
  have ht : (tkC κ w c).toInt = min (c.toInt / 10) (κ 4 w 3).toInt := by rw [htk, lst_toInt, hd]
  obtain ⟨t, et⟩ : ∃ z, z = tkC κ w c := ⟨_, rfl⟩
  rw [← et] at ht
  obtain ⟨⟨c1, c2⟩, c3, c4⟩ := hP.1 ev hev
  have cl40 := cB_le (κ := κ) nt
  have er : (c - t).toInt = c.toInt - t.toInt := i_sub (by omega) (by omega)
  have ea : (c - t - κ 0 0 0).toInt = c.toInt - t.toInt - (κ 0 0 0).toInt := by rw [i_sub (by have := hO.2; omega) (by have := hO.2; omega), er]
  have oy : ∀ i, pyK κ w ev c 15 i = κ 15 i := fun i => by rw [pyK_k (by decide) (by decide)]
  have hG : gA (pyK κ w ev c) no (c - t - κ 0 0 0) (gaC no w (c - t - κ 0 0 0) (pyK κ w ev c, 0) 3) := by
    refine gA_ga (fun i hi => by rw [oy]; exact (hO.1 i hi).2) (by have := hO.2; omega) (by have := hO.2; omega) ?_ 3
    refine ⟨oK.refl _, fun i hi => by show 0 ≤ (pyK κ w ev c 15 i 2).toInt; rw [oy]; exact (hO.1 i hi).1, by show 0 ≤ (0 : Int32).toInt; rw [i_0]; omega, by show (0 : Int32).toInt ≤ _; rw [i_0]; omega, Int32.add_zero _⟩
  have ep : pgC κ no w ev c = gaC no w (c - t - κ 0 0 0) (pyK κ w ev c, 0) 3 := by rw [et]; rfl
  rw [← ep] at hG
  obtain ⟨g1, g2, g3, g4, g5⟩ := hG
  obtain ⟨r, eR⟩ : ∃ z, z = (pgC κ no w ev c).2 := ⟨_, rfl⟩
  rw [← eR] at g3 g4 g5
  have hfl := hO.2
  rw [ea] at g4
  have epd : (c - t - r).toInt = c.toInt - t.toInt - r.toInt := by rw [i_sub (by omega) (by omega), er]
  have p10 : payK κ no wk w ev c 10 w = va_up (κ 10 w) wk 1 := by unfold payK; rw [slK_10, oK_pgC.1 10 (by decide), pyK_k (by decide) (by decide)]
  have p11 : payK κ no wk w ev c 11 w = va_up (κ 11 w) wk c := by unfold payK; rw [slK_11, oK_pgC.1 11 (by decide), pyK_k (by decide) (by decide)]
  have p12 : payK κ no wk w ev c 12 w = va_up (κ 12 w) wk t := by unfold payK; rw [slK_12, oK_pgC.1 12 (by decide), pyK_k (by decide) (by decide), et]
  have p13 : payK κ no wk w ev c 13 w = va_up (κ 13 w) wk r := by unfold payK; rw [slK_13, oK_pgC.1 13 (by decide), pyK_k (by decide) (by decide), eR]
  have p14 : payK κ no wk w ev c 14 w = va_up (κ 14 w) wk (c - t - r) := by unfold payK; rw [slK_14, oK_pgC.1 14 (by decide), pyK_k (by decide) (by decide), eR, et]
  have p15 : ∀ i, payK κ no wk w ev c 15 i = (pgC κ no w ev c).1 15 i := fun i => by rw [payK_15]
  have k4 : payK κ no wk w ev c 4 w = va_up (va_up (κ 4 w) 2 (κ 4 w 2 + c)) 3 (κ 4 w 3 - t) := by rw [payK_4, pyK_4, et]
  have k1 : payK κ no wk w ev c 1 ev = va_up (va_up (κ 1 ev) 0 (κ 1 ev 0 - c + t)) 1 (κ 1 ev 1) := by rw [payK_1, pyK_1, et]
  have k1i : ∀ i, i ≠ ev → payK κ no wk w ev c 1 i = κ 1 i := fun i hi => by rw [payK_1]; unfold pyK; rw [upF_k (by decide), upF_i hi]
  have kk : ∀ k, (k ≠ 1 ∧ k ≠ 4 ∧ k ≠ 10 ∧ k ≠ 11 ∧ k ≠ 12 ∧ k ≠ 13 ∧ k ≠ 14 ∧ k ≠ 15) → payK κ no wk w ev c k = κ k := fun k hk => payK_k hk
  have ki : ∀ i, i ≠ w → ∀ k, k ≠ 1 → k ≠ 15 → payK κ no wk w ev c k i = κ k i := fun i hi k h1 h15 => payK_i hi h1 h15
  have o3 : ∀ i j, j ≠ 2 → payK κ no wk w ev c 15 i j = κ 15 i j := fun i j hj => by rw [p15, g1.2 i j hj, oy]
  have o2 : ∀ i, payK κ no wk w ev c 15 i 2 = (pgC κ no w ev c).1 15 i 2 := fun i => by rw [p15]
  obtain ⟨κ2, eK⟩ : ∃ z, z = payK κ no wk w ev c := ⟨_, rfl⟩
  rw [← eK] at p10 p11 p12 p13 p14 k4 k1 k1i kk ki o3 o2 ⊢
  have s1 : ∀ k p, p ≤ 3 → k ≠ wk → spC κ2 w k p = spC κ w k p := by
    intro k p hp4 hne
    unfold spC
    rw [p10, va_up_n hne]
    rcases (show p = 0 ∨ p = 1 ∨ p = 2 ∨ p = 3 by omega) with rfl | rfl | rfl | rfl
    · rw [show κ2 (11 + 0) w = va_up (κ 11 w) wk c from p11, va_up_n hne]
    · rw [show κ2 (11 + 1) w = va_up (κ 12 w) wk t from p12, va_up_n hne]
    · rw [show κ2 (11 + 2) w = va_up (κ 13 w) wk r from p13, va_up_n hne]
    · rw [show κ2 (11 + 3) w = va_up (κ 14 w) wk (c - t - r) from p14, va_up_n hne]
  have s2 : ∀ p, spC κ2 w wk p = κ2 (11 + p) w wk := by
    intro p
    unfold spC
    rw [p10, va_up_s, if_pos rfl]
  have t0 : spC κ2 w wk 0 = c := by rw [s2, show κ2 (11 + 0) w = va_up (κ 11 w) wk c from p11, va_up_s]
  have t1 : spC κ2 w wk 1 = t := by rw [s2, show κ2 (11 + 1) w = va_up (κ 12 w) wk t from p12, va_up_s]
  have t2 : spC κ2 w wk 2 = r := by rw [s2, show κ2 (11 + 2) w = va_up (κ 13 w) wk r from p13, va_up_s]
  have t3 : spC κ2 w wk 3 = c - t - r := by rw [s2, show κ2 (11 + 3) w = va_up (κ 14 w) wk (c - t - r) from p14, va_up_s]
  have a42 : κ2 4 w 2 = κ 4 w 2 + c := by rw [k4, va_up_n (by decide), va_up_s]
  have a43 : κ2 4 w 3 = κ 4 w 3 - t := by rw [k4, va_up_s]
  have a44 : κ2 4 w 4 = κ 4 w 4 := by rw [k4, va_up_n (by decide), va_up_n (by decide)]
  have b2 : κ 4 w 2 + c = duC κ w 0 (nI wk) := by rw [ec]; grind
  have b3 : (κ 4 w 3 - t).toInt = (κ 4 w 3).toInt - t.toInt := i_sub (by omega) (by omega)
  have hz : ∀ p, spC κ w wk p = 0 := sp_none hn
  have m1 : (κ 1 ev 0 - c + t).toInt = (κ 1 ev 0).toInt - c.toInt + t.toInt := by
    have e1 : (κ 1 ev 0 - c).toInt = (κ 1 ev 0).toInt - c.toInt := i_sub (by omega) (by have := (κ 1 ev 0).toInt_lt; omega)
    rw [i_add (by rw [e1]; omega) (by rw [e1]; have := (κ 1 ev 0).toInt_lt; omega), e1]
  have cb : cB κ2 nt = cB κ nt := cB_eq nt (fun t _ => by rw [kk 16 (by decide)])
  refine ⟨⟨⟨?_, ?_⟩, fun s hs2 z => ?_, fun k hk2 => ?_, fun k q1 q2 => ?_, ?_, ?_⟩, fun i hi k hk => ki i hi k (by omega) (by omega), kk 2 (by decide), ⟨fun i hi => ?_, by rw [kk 0 (by decide)]; exact hO.2⟩, ⟨fun e he => ?_, fun t ht => by rw [kk 16 (by decide)]; exact hP.2 t ht⟩, ?_, ?_, ?_⟩
  · rw [a42, b2]; exact ⟨hd0, hd1⟩
  · rw [a43, b3]; omega
  · rw [kk 7 (by decide)] at z
    rw [kk 8 (by decide), kk 9 (by decide)]
    exact b s hs2 z
  · by_cases q : k = wk
    · subst q
      unfold sOk
      rw [t0, t1, t2, t3]
      refine ⟨by omega, ?_, g3, ?_, by grind⟩
      · rw [Int32.lt_iff_toInt_lt, hd, ht]
        omega
      · rw [epd]; have := hO.2; omega
    · unfold sOk
      rw [s1 k 0 (by omega) q, s1 k 1 (by omega) q, s1 k 2 (by omega) q, s1 k 3 (by omega) q]
      exact hsl k hk2
  · rw [p10, va_up_n (by omega)]
    exact d k (by omega) q2
  · rw [a42, a44, gS_upd (h := fun k => spC κ w k 0) (h2 := fun k => spC κ2 w k 0) 31 hk (fun k hne => s1 k 0 (by omega) hne), ← f]
    try dsimp only
    rw [t0, hz]
    grind
  · rw [a43, a44, gS_upd (h := fun k => spC κ w k 1) (h2 := fun k => spC κ2 w k 1) 31 hk (fun k hne => s1 k 1 (by omega) hne)]
    try dsimp only
    rw [t1, hz, ← g]
    grind
  · rw [o2, o3 i 3 (by decide)]
    exact ⟨g2 i hi, (hO.1 i hi).2⟩
  · rw [cb]
    by_cases q : e = ev
    · subst q
      rw [k1, va_up_n (by decide), va_up_s, va_up_s, m1]
      omega
    · rw [k1i e q]
      exact hP.1 e he
  · rw [t2, gS_eq no (fun k _ => o2 k), g5]
    exact gS_eq no (fun k _ => by rw [oy])
  · rw [t0, t1]
    unfold P3
    have e0 : κ2 1 ev 0 = κ 1 ev 0 - c + t := by rw [k1, va_up_n (by decide), va_up_s]
    rcases (show ev = 0 ∨ ev = 1 ∨ ev = 2 by omega) with rfl | rfl | rfl
    · rw [e0, k1i 1 (by decide), k1i 2 (by decide)]; grind
    · rw [e0, k1i 0 (by decide), k1i 2 (by decide)]; grind
    · rw [e0, k1i 0 (by decide), k1i 1 (by decide)]; grind
  · rw [t0, if_pos (by rw [Int32.lt_iff_toInt_lt, i_0]; exact hc)]
theorem set_one (hI : Ic nw no nt wk κ) (hw : w < nw) (h : jW κ w wk) (hR : sRr κ) (hk : wk < 31) (hO : jO κ no) (hP : jP κ nt) : jT κ (stC κ no wk w) nw no nt wk w (snC κ wk w) := by
  have hdu := du_rng (a := 0) (b := nI wk) hI hw h.2.1 hR
  obtain ⟨ev, hev, hke⟩ := hI.2.2.2.2.1 w hw
  have heC : evC κ w = ev := by unfold evC; rw [hke, nI_clamp (n := ev) (by omega)]
  have ecl : clC κ wk w = duC κ w 0 (nI wk) - κ 4 w 2 := rfl
  unfold stC snC
  by_cases h0 : clC κ wk w < 0
  · rw [if_pos h0, if_pos h0]
    exact set_owe h hk hO hP hdu.1 hdu.2 h0
  · rw [if_neg h0, if_neg h0]
    by_cases h1 : ¬ clC κ wk w = 0 ∧ ¬ κ 1 (evC κ w) 0 < clC κ wk w
    · rw [if_pos h1, if_pos h1, heC]
      obtain ⟨h1, h2⟩ := h1
      rw [heC] at h2
      rw [Int32.lt_iff_toInt_lt] at h2
      rw [Int32.lt_iff_toInt_lt, i_0] at h0
      have hne : ¬ (clC κ wk w).toInt = 0 := fun z => h1 (i_ext (by rw [z]; exact i_0.symm))
      exact set_pay h hk hO hP hev ecl hdu.1 hdu.2 (by omega) (by omega)
    · rw [if_neg h1, if_neg h1]
      exact set_none h hk hO hP
end SET
