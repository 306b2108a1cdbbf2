theorem rg1 (a b c m : Int32) : a + (c - m) - (b - m) = a - b + c := by grind
theorem rg2 (a b c m : Int32) : a - m - (b + (c - m)) = a - b - c := by grind
theorem rg4 (a c : Int32) : a + c - c = a := by grind
section JST2
variable {κ : cS} {nw no nt wk : Nat}
theorem J_fill (h : JK nw no nt wk κ) {ev : Nat} {p1 : Int32} (he : ev < 3) (hp : inr p1 1 10000000) (hn : nt < 40) : JK nw no (nt + 1) wk (fiK κ nt ev p1) := by
  obtain ⟨hI, H1, H2, H3, H4⟩ := h
  have r1 := inr_rng (m := 1) (by decide +kernel) (n := 10000000) (by decide +kernel) hp
  obtain ⟨⟨c1, c2⟩, c3, c4⟩ := H4.1 ev he
  have cl := cB_le (κ := κ) nt
  have hm : (lst p1 (κ 1 ev 1)).toInt = min p1.toInt (κ 1 ev 1).toInt := lst_toInt
  have e1 : (p1 - lst p1 (κ 1 ev 1)).toInt = p1.toInt - min p1.toInt (κ 1 ev 1).toInt := by rw [i_sub (by rw [hm]; omega) (by rw [hm]; omega), hm]
  have e2 : (κ 1 ev 0 + (p1 - lst p1 (κ 1 ev 1))).toInt = (κ 1 ev 0).toInt + (p1.toInt - min p1.toInt (κ 1 ev 1).toInt) := by rw [i_add (by rw [e1]; omega) (by rw [e1]; omega), e1]
  have e3 : (κ 1 ev 1 - lst p1 (κ 1 ev 1)).toInt = (κ 1 ev 1).toInt - min p1.toInt (κ 1 ev 1).toInt := by rw [i_sub (by rw [hm]; omega) (by rw [hm]; omega), hm]
  obtain ⟨x2, ex2⟩ : ∃ z, z = κ 1 ev 0 + (p1 - lst p1 (κ 1 ev 1)) := ⟨_, rfl⟩
  obtain ⟨x1, ex1⟩ : ∃ z, z = κ 1 ev 1 - lst p1 (κ 1 ev 1) := ⟨_, rfl⟩
  rw [← ex2] at e2
  rw [← ex1] at e3
  have eK : fiK κ nt ev p1 = upF (upF κ 16 nt (orow ev p1 0 0)) 1 ev (va_up (va_up ((upF κ 16 nt (orow ev p1 0 0)) 1 ev) 0 x2) 1 x1) := by rw [ex1, ex2]; rfl
  rw [eK]
  have kk : ∀ k, k ≠ 1 → k ≠ 16 → upF (upF κ 16 nt (orow ev p1 0 0)) 1 ev (va_up (va_up ((upF κ 16 nt (orow ev p1 0 0)) 1 ev) 0 x2) 1 x1) k = κ k := fun k h1 h2 => funext fun _ => by rw [upF_k h1, upF_k h2]
  have k16 : upF (upF κ 16 nt (orow ev p1 0 0)) 1 ev (va_up (va_up ((upF κ 16 nt (orow ev p1 0 0)) 1 ev) 0 x2) 1 x1) 16 = upF κ 16 nt (orow ev p1 0 0) 16 := funext fun _ => upF_k (by decide)
  have k1 : upF κ 16 nt (orow ev p1 0 0) 1 = κ 1 := funext fun _ => upF_k (by decide)
  have cb : cB (upF (upF κ 16 nt (orow ev p1 0 0)) 1 ev (va_up (va_up ((upF κ 16 nt (orow ev p1 0 0)) 1 ev) 0 x2) 1 x1)) (nt + 1) = cB κ nt := by
    show cB _ nt + (if _ = 0 then 0 else 1) = cB κ nt
    rw [cB_eq nt (fun t ht => by rw [k16, upF_i (by omega)]), if_pos (by rw [k16, upF_s]; rfl)]
    rfl
  refine ⟨?_, fun i hi => (H1 i hi).cg (Nat.le_refl _) (fun k hk => by rw [kk k (by omega) (by omega)]), H2.cg (kk 2 (by decide) (by decide)), H3.cg (kk 15 (by decide) (by decide)) (kk 0 (by decide) (by decide)), fun e e3' => ?_, fun t ht => ?_⟩
  · obtain ⟨a1, a2, a3, a4, a5, a6, a7, a8, a9, a10⟩ := hI
    refine ⟨a1, a2, by omega, a4, by rw [kk 4 (by decide) (by decide)]; exact a5, by rw [kk 4 (by decide) (by decide)]; exact a6, by rw [kk 7 (by decide) (by decide)]; exact a7, by rw [kk 5 (by decide) (by decide)]; exact a8, by rw [kk 15 (by decide) (by decide)]; exact a9, fun t ht => ?_⟩
    rw [k16]
    by_cases q : t = nt
    · subst q
      exact ⟨ev, he, by rw [upF_s]; rfl⟩
    · rw [upF_i q]
      exact a10 t (by omega)
  · rw [cb]
    by_cases q : e = ev
    · subst q
      rw [upF_s, va_up_n (by decide), va_up_s, va_up_s]
      omega
    · rw [upF_i q, k1]
      have := H4.1 e e3'
      omega
  · rw [k16]
    by_cases q : t = nt
    · subst q
      rw [upF_s]
      show 0 ≤ p1.toInt ∧ p1.toInt ≤ 10000000
      omega
    · rw [upF_i q]
      exact H4.2 t (by omega)
theorem J_bounce (h : JK nw no nt wk κ) {j ev : Nat} (hj : j < nt) (he : ev < 3) (h0 : κ 16 j 2 = 0) : JK nw no nt wk (bnK κ j ev) ∧ 0 ≤ (bnK κ j ev 1 ev 1).toInt ∧ (bnK κ j ev 1 ev 1).toInt ≤ 410000000 := by
  obtain ⟨hI, H1, H2, H3, H4⟩ := h
  have h40 : nt ≤ 40 := hI.2.2.1
  obtain ⟨⟨c1, c2⟩, c3, c4⟩ := H4.1 ev he
  have ra := H4.2 j hj
  have cl := cB_le (κ := κ) nt
  have hm : (lst (κ 16 j 1) (κ 1 ev 0)).toInt = min (κ 16 j 1).toInt (κ 1 ev 0).toInt := lst_toInt
  have e1 : (κ 16 j 1 - lst (κ 16 j 1) (κ 1 ev 0)).toInt = (κ 16 j 1).toInt - min (κ 16 j 1).toInt (κ 1 ev 0).toInt := by rw [i_sub (by rw [hm]; omega) (by rw [hm]; omega), hm]
  have e2 : (κ 1 ev 1 + (κ 16 j 1 - lst (κ 16 j 1) (κ 1 ev 0))).toInt = (κ 1 ev 1).toInt + ((κ 16 j 1).toInt - min (κ 16 j 1).toInt (κ 1 ev 0).toInt) := by rw [i_add (by rw [e1]; omega) (by rw [e1]; omega), e1]
  have e3 : (κ 1 ev 0 - lst (κ 16 j 1) (κ 1 ev 0)).toInt = (κ 1 ev 0).toInt - min (κ 16 j 1).toInt (κ 1 ev 0).toInt := by rw [i_sub (by rw [hm]; omega) (by rw [hm]; omega), hm]
  obtain ⟨x2, ex2⟩ : ∃ z, z = κ 1 ev 0 - lst (κ 16 j 1) (κ 1 ev 0) := ⟨_, rfl⟩
  obtain ⟨x1, ex1⟩ : ∃ z, z = κ 1 ev 1 + (κ 16 j 1 - lst (κ 16 j 1) (κ 1 ev 0)) := ⟨_, rfl⟩
  rw [← ex1] at e2
  rw [← ex2] at e3
  have eK : bnK κ j ev = upF (upF κ 16 j (va_up (κ 16 j) 2 1)) 1 ev (va_up (va_up ((upF κ 16 j (va_up (κ 16 j) 2 1)) 1 ev) 0 x2) 1 x1) := by rw [ex1, ex2]; rfl
  rw [eK]
  have kk : ∀ k, k ≠ 1 → k ≠ 16 → upF (upF κ 16 j (va_up (κ 16 j) 2 1)) 1 ev (va_up (va_up ((upF κ 16 j (va_up (κ 16 j) 2 1)) 1 ev) 0 x2) 1 x1) k = κ k := fun k h1 h2 => funext fun _ => by rw [upF_k h1, upF_k h2]
  have k16 : upF (upF κ 16 j (va_up (κ 16 j) 2 1)) 1 ev (va_up (va_up ((upF κ 16 j (va_up (κ 16 j) 2 1)) 1 ev) 0 x2) 1 x1) 16 = upF κ 16 j (va_up (κ 16 j) 2 1) 16 := funext fun _ => upF_k (by decide)
  have k1 : upF κ 16 j (va_up (κ 16 j) 2 1) 1 = κ 1 := funext fun _ => upF_k (by decide)
  have cb : cB (upF (upF κ 16 j (va_up (κ 16 j) 2 1)) 1 ev (va_up (va_up ((upF κ 16 j (va_up (κ 16 j) 2 1)) 1 ev) 0 x2) 1 x1)) nt = cB κ nt + 1 := by
    refine cB_set h0 ?_ (fun t ht => ?_) nt hj
    · rw [k16, upF_s, va_up_s]; decide
    · rw [k16, upF_i ht]
  have cl2 := cB_le (κ := upF (upF κ 16 j (va_up (κ 16 j) 2 1)) 1 ev (va_up (va_up ((upF κ 16 j (va_up (κ 16 j) 2 1)) 1 ev) 0 x2) 1 x1)) nt
  refine ⟨⟨?_, fun i hi => (H1 i hi).cg (Nat.le_refl _) (fun k hk => by rw [kk k (by omega) (by omega)]), H2.cg (kk 2 (by decide) (by decide)), H3.cg (kk 15 (by decide) (by decide)) (kk 0 (by decide) (by decide)), fun e e3' => ?_, fun t ht => ?_⟩, ?_⟩
  · obtain ⟨a1, a2, a3, a4, a5, a6, a7, a8, a9, a10⟩ := hI
    refine ⟨a1, a2, a3, a4, by rw [kk 4 (by decide) (by decide)]; exact a5, by rw [kk 4 (by decide) (by decide)]; exact a6, by rw [kk 7 (by decide) (by decide)]; exact a7, by rw [kk 5 (by decide) (by decide)]; exact a8, by rw [kk 15 (by decide) (by decide)]; exact a9, fun t ht => ?_⟩
    rw [k16, upF_e (by omega)]
    exact a10 t ht
  · rw [cb]
    by_cases q : e = ev
    · subst q
      rw [upF_s, va_up_n (by decide), va_up_s, va_up_s]
      omega
    · rw [upF_i q, k1]
      have := H4.1 e e3'
      omega
  · rw [k16, upF_e (by omega)]
    exact H4.2 t ht
  · rw [upF_s, va_up_s]
    omega
/-- a transfer that bounces at once -/
theorem b_ok (h : JK nw no nt wk κ) {e : Nat} {am : Int32} (he : e < 3) (hp : inr am 1 10000000) (hN : wk < 31 → ∀ w, w < nw → ¬ κ 10 w wk = 1) : bOK (nw, no, nt, wk, κ) e am := by
  by_cases hn : nt < 40
  · refine Or.inr ?_
    have hJ1 := J_fill h he hp hn
    have f16 : fiK κ nt e am 16 nt = orow e am 0 0 := by unfold fiK; rw [upF_k (by decide), upF_s]
    have hJ2 := J_bounce hJ1 (j := nt) (ev := e) (Nat.lt_succ_self _) he (by rw [f16]; rfl)
    have f0 : fiK κ nt e am 1 e 0 = κ 1 e 0 + (am - (if am < κ 1 e 1 then am else κ 1 e 1)) := by unfold fiK; rw [upF_s, va_up_n (by decide), va_up_s]
    have f1 : fiK κ nt e am 1 e 1 = κ 1 e 1 - (if am < κ 1 e 1 then am else κ 1 e 1) := by unfold fiK; rw [upF_s, va_up_s]
    have fa : fiK κ nt e am 16 nt 1 = am := by rw [f16]; rfl
    have fk : ∀ k, k ≠ 1 → k ≠ 16 → fiK κ nt e am k = κ k := fun k h1 h2 => funext fun _ => by unfold fiK; rw [upF_k h1, upF_k h2]
    have bk : ∀ k, k ≠ 1 → k ≠ 16 → bnK (fiK κ nt e am) nt e k = κ k := fun k h1 h2 => funext fun _ => by unfold bnK; rw [upF_k h1, upF_k h2, fk k h1 h2]
    have eF : fillF (nI e) am (nw, no, nt, wk, κ) = some (nI nt, (nw, no, nt + 1, wk, fiK κ nt e am)) := by
      have z : fillF (nI e) am (nw, no, nt, wk, κ) = _ := if_pos ⟨inr_nI (n := 2) (by omega) (by decide), hp, hn⟩
      rw [nI_clamp (n := e) (by omega)] at z
      exact z
    have eB : bncF (nI nt) (nw, no, nt + 1, wk, fiK κ nt e am) = some (bnK (fiK κ nt e am) nt e 1 e 1, (nw, no, nt + 1, wk, bnK (fiK κ nt e am) nt e)) := by
      have z : bncF (nI nt) (nw, no, nt + 1, wk, fiK κ nt e am) = _ := if_pos ⟨inr_wI (Nat.lt_succ_self _) (by show nt + 1 < _; omega), by rw [nI_clamp (n := nt) (by omega)]; show fiK κ nt e am 16 nt 2 = 0; rw [f16]; rfl⟩
      rw [nI_clamp (n := nt) (by omega)] at z
      have e0 : fiK κ nt e am 16 nt 0 = nI e := by rw [f16]; rfl
      dsimp only at z
      rw [e0, nI_clamp (n := e) (by omega)] at z
      exact z
    have eC : bncF (nI nt) (nw, no, nt + 1, wk, bnK (fiK κ nt e am) nt e) = none := by
      refine if_neg (fun z => ?_)
      have z2 := z.2
      rw [nI_clamp (n := nt) (by omega)] at z2
      have : bnK (fiK κ nt e am) nt e 16 nt 2 = 1 := by unfold bnK; rw [upF_k (by decide), upF_s, va_up_s]
      rw [show ((nw, no, nt + 1, wk, bnK (fiK κ nt e am) nt e) : pS).2.2.2.2 16 nt 2 = bnK (fiK κ nt e am) nt e 16 nt 2 from rfl, this] at z2
      exact absurd z2 (by decide)
    have g0 : bnK (fiK κ nt e am) nt e 1 e 0 = fiK κ nt e am 1 e 0 - (if am < fiK κ nt e am 1 e 0 then am else fiK κ nt e am 1 e 0) := by unfold bnK; rw [upF_s, va_up_n (by decide), va_up_s, fa]
    have g1 : bnK (fiK κ nt e am) nt e 1 e 1 = fiK κ nt e am 1 e 1 + (am - (if am < fiK κ nt e am 1 e 0 then am else fiK κ nt e am 1 e 0)) := by unfold bnK; rw [upF_s, va_up_s, fa]
    have d1 : fiK κ nt e am 1 e 0 - fiK κ nt e am 1 e 1 = κ 1 e 0 - κ 1 e 1 + am := by
      rw [f0, f1]
      generalize (if am < κ 1 e 1 then am else κ 1 e 1) = m
      exact rg1 _ _ _ _
    refine ⟨_, _, _, eF, eB, eC, hn, hJ1.1, hJ2.1.1, fun hk w hw => ?_, fun hk w hw => ?_, d1, fun hlt => ?_, fun hlt => ?_, rfl, ?_⟩
    · show ¬ fiK κ nt e am 10 w wk = 1
      rw [fk 10 (by decide) (by decide)]
      exact hN hk w hw
    · show ¬ bnK (fiK κ nt e am) nt e 10 w wk = 1
      rw [bk 10 (by decide) (by decide)]
      exact hN hk w hw
    · show fiK κ nt e am 1 e 1 = 0
      rw [f1, if_neg hlt, Int32.sub_self]
    · show fiK κ nt e am 1 e 0 = κ 1 e 0
      rw [f0, if_pos hlt, Int32.sub_self, Int32.add_zero]
    · show bnK (fiK κ nt e am) nt e 1 e 0 - bnK (fiK κ nt e am) nt e 1 e 1 = κ 1 e 0 - κ 1 e 1
      rw [g0, g1]
      generalize (if am < fiK κ nt e am 1 e 0 then am else fiK κ nt e am 1 e 0) = m
      rw [rg2, d1, rg4]
  · exact Or.inl (if_neg (fun z => hn z.2.2))
end JST2
