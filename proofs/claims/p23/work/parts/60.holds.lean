/-! WHAT HOLDS OF THE CLASS'S NUMBERS, call by call -/
theorem tlV_or {t : Nat → Int32} {v : Int32} : ∀ (n i : Nat) (g : Nat → Int32) (k : Nat), tlV t v n i g k = v ∨ tlV t v n i g k = g k
  | 0, _, _, _ => Or.inr rfl
  | n + 1, i, g, k => by
    unfold tlV
    by_cases z : t i = 0
    · rw [if_pos z]
      rcases tlV_or (t := t) (v := v) n (i + 1) (va_up g i v) k with e | e
      · exact Or.inl e
      · rw [e]
        by_cases q : k = i
        · rw [q, va_up_s]; exact Or.inl rfl
        · rw [va_up_n q]; exact Or.inr rfl
    · rw [if_neg z]; exact Or.inr rfl
theorem tl_P {P : Int32 → Prop} {t g : Nat → Int32} {v : Int32} {kv k : Nat} (n i : Nat) (hv : P v) (hg : P (g k)) : P (tlV t v n i (va_up g kv v) k) := by
  rcases tlV_or (t := t) (v := v) n i (va_up g kv v) k with e | e
  · rw [e]; exact hv
  · rw [e]
    by_cases q : k = kv
    · rw [q, va_up_s]; exact hv
    · rw [va_up_n q]; exact hg
theorem inr_rng {p a b : Int32} {m n : Int} (ha : a.toInt = m) (hb : b.toInt = n) (h : inr p a b) : m ≤ p.toInt ∧ p.toInt ≤ n := by
  have h1 := h.1
  have h2 := h.2
  rw [Int32.le_iff_toInt_le, ha] at h1
  rw [Int32.le_iff_toInt_le, hb] at h2
  exact ⟨h1, h2⟩
/-- how many of the first transfers have bounced -/
def cB (κ : cS) : Nat → Nat
  | 0 => 0
  | t + 1 => cB κ t + (if κ 16 t 2 = 0 then 0 else 1)
theorem cB_le {κ : cS} : ∀ n, cB κ n ≤ n
  | 0 => Nat.le_refl _
  | n + 1 => by
    have := cB_le (κ := κ) n
    show cB κ n + (if κ 16 n 2 = 0 then 0 else 1) ≤ n + 1
    split <;> omega
theorem cB_eq {κ κ2 : cS} : ∀ n, (∀ t, t < n → κ2 16 t 2 = κ 16 t 2) → cB κ2 n = cB κ n
  | 0, _ => rfl
  | n + 1, h => by
    show cB κ2 n + (if κ2 16 n 2 = 0 then 0 else 1) = cB κ n + (if κ 16 n 2 = 0 then 0 else 1)
    rw [cB_eq n (fun t ht => h t (by omega)), h n (by omega)]
theorem cB_set {κ κ2 : cS} {j : Nat} (h0 : κ 16 j 2 = 0) (h1 : ¬ κ2 16 j 2 = 0) (he : ∀ t, t ≠ j → κ2 16 t 2 = κ 16 t 2) : ∀ n, j < n → cB κ2 n = cB κ n + 1
  | 0, h => absurd h (Nat.not_lt_zero _)
  | n + 1, h => by
    show cB κ2 n + (if κ2 16 n 2 = 0 then 0 else 1) = cB κ n + (if κ 16 n 2 = 0 then 0 else 1) + 1
    by_cases q : n = j
    · subst q
      rw [cB_eq n (fun t ht => he t (by omega)), if_neg h1, if_pos h0]
    · rw [cB_set h0 h1 he n (by omega), he n q]
      omega
/-- a slip without a rest -/
def sOk (κ : cS) (w k : Nat) : Prop := 0 ≤ (spC κ w k 0).toInt ∧ ¬ spC κ w k 0 / 10 < spC κ w k 1 ∧ 0 ≤ (spC κ w k 2).toInt ∧ 0 ≤ (spC κ w k 3).toInt ∧ spC κ w k 0 = spC κ w k 1 + spC κ w k 2 + spC κ w k 3
def jW (κ : cS) (w v : Nat) : Prop := ((0 ≤ (κ 4 w 2).toInt ∧ (κ 4 w 2).toInt ≤ 40000000) ∧ (0 ≤ (κ 4 w 3).toInt ∧ (κ 4 w 3).toInt ≤ 40000000 * v)) ∧ sHr κ w ∧ (∀ k, k < 31 → sOk κ w k) ∧ (∀ k, v ≤ k → k < 31 → ¬ κ 10 w k = 1) ∧ κ 4 w 2 + κ 4 w 4 = gS (fun k => spC κ w k 0) 31 ∧ κ 4 w 3 + gS (fun k => spC κ w k 1) 31 = κ 4 w 4
def jO (κ : cS) (no : Nat) : Prop := (∀ i, i < no → 0 ≤ (κ 15 i 2).toInt ∧ 0 ≤ (κ 15 i 3).toInt) ∧ 0 ≤ (κ 0 0 0).toInt ∧ (κ 0 0 0).toInt ≤ 10000000
def jP (κ : cS) (nt : Nat) : Prop := (∀ e, e < 3 → (0 ≤ (κ 1 e 0).toInt ∧ (κ 1 e 0).toInt ≤ 10000000 * nt) ∧ 0 ≤ (κ 1 e 1).toInt ∧ (κ 1 e 1).toInt ≤ 10000000 * cB κ nt) ∧ ∀ t, t < nt → 0 ≤ (κ 16 t 1).toInt ∧ (κ 16 t 1).toInt ≤ 10000000
def JK (nw no nt wk : Nat) (κ : cS) : Prop := Ic nw no nt wk κ ∧ (∀ w, w < nw → jW κ w wk) ∧ sRr κ ∧ jO κ no ∧ jP κ nt
abbrev J (S : pS) : Prop := JK S.1 S.2.1 S.2.2.1 S.2.2.2.1 S.2.2.2.2
theorem sOk_0 {κ : cS} {w k : Nat} (h : ∀ p, p ≤ 3 → spC κ w k p = 0) : sOk κ w k := by
  unfold sOk
  rw [h 0 (by omega), h 1 (by omega), h 2 (by omega), h 3 (by omega)]
  decide +kernel
section JCG
variable {κ κ2 : cS} {nw no nt wk w v v2 : Nat}
theorem jW.cg (h : jW κ w v) (hv : v ≤ v2) (e : ∀ k, k = 4 ∨ (7 ≤ k ∧ k ≤ 14) → κ2 k w = κ k w) : jW κ2 w v2 := by
  obtain ⟨⟨⟨a1, a2⟩, a3, a4⟩, b, c, d, f, g⟩ := h
  have hs : ∀ k p, p ≤ 3 → spC κ2 w k p = spC κ w k p := fun k p hp => by
    unfold spC
    rw [e 10 (by omega), e (11 + p) (by omega)]
  have h4 := e 4 (by omega)
  refine ⟨⟨⟨by rw [h4]; exact a1, by rw [h4]; exact a2⟩, by rw [h4]; exact a3, by rw [h4]; omega⟩, fun s hs2 z => ?_, fun k hk => ?_, fun k k1 k2 => by rw [e 10 (by omega)]; exact d k (by omega) k2, ?_, ?_⟩
  · rw [e 7 (by omega)] at z
    rw [e 8 (by omega), e 9 (by omega)]
    exact b s hs2 z
  · unfold sOk
    rw [hs k 0 (by omega), hs k 1 (by omega), hs k 2 (by omega), hs k 3 (by omega)]
    exact c k hk
  · rw [h4, f]
    exact gS_eq 31 (fun k _ => (hs k 0 (by omega)).symm)
  · rw [h4, gS_eq 31 (fun k _ => hs k 1 (by omega))]
    exact g
theorem sRr.cg (h : sRr κ) (e : κ2 2 = κ 2) : sRr κ2 := fun r k a b => by rw [e]; exact h r k a b
theorem jO.cg (h : jO κ no) (e15 : κ2 15 = κ 15) (e0 : κ2 0 = κ 0) : jO κ2 no := ⟨fun i hi => by rw [e15]; exact h.1 i hi, by rw [e0]; exact h.2.1, by rw [e0]; exact h.2.2⟩
theorem jP.cg (h : jP κ nt) (e1 : κ2 1 = κ 1) (e16 : κ2 16 = κ 16) : jP κ2 nt := ⟨fun e he => by rw [e1, cB_eq nt (fun t _ => by rw [e16])]; exact h.1 e he, fun t ht => by rw [e16]; exact h.2 t ht⟩
end JCG
section JST
variable {κ : cS} {nw no nt wk : Nat}
theorem J_floor (h : JK nw no nt wk κ) {p0 : Int32} (hp : inr p0 0 10000000) : JK nw no nt wk (upF κ 0 0 (va_up (κ 0 0) 0 p0)) := by
  obtain ⟨hI, H1, H2, H3, H4⟩ := h
  have kk : ∀ k, k ≠ 0 → upF κ 0 0 (va_up (κ 0 0) 0 p0) k = κ k := fun k hk => funext fun _ => upF_k hk
  have hr := inr_rng i_0 (n := 10000000) (by decide +kernel) hp
  refine ⟨hI.of (fun i => by rw [kk 4 (by decide)]) (fun i => by rw [kk 4 (by decide)]) (kk 7 (by decide)) (kk 5 (by decide)) (fun o => by rw [kk 15 (by decide)]) (kk 16 (by decide)), fun w hw => (H1 w hw).cg (Nat.le_refl _) (fun k hk => by rw [kk k (by omega)]), H2.cg (kk 2 (by decide)), ⟨fun i hi => by rw [kk 15 (by decide)]; exact H3.1 i hi, ?_⟩, H4.cg (kk 1 (by decide)) (kk 16 (by decide))⟩
  rw [upF_s, va_up_s]
  exact hr
theorem J_order (h : JK nw no nt wk κ) {w : Nat} {p1 p2 p3 : Int32} (hw : w < nw) (h2 : inr p2 1 10000000) (h3 : inr p3 1 1000000) (hn : no < 20) : JK nw (no + 1) nt wk (upF κ 15 no (orow w p1 p2 p3)) := by
  obtain ⟨hI, H1, H2, H3, H4⟩ := h
  have kk : ∀ k, k ≠ 15 → upF κ 15 no (orow w p1 p2 p3) k = κ k := fun k hk => funext fun _ => upF_k hk
  have q2 := inr_rng (m := 1) (by decide +kernel) (n := 10000000) (by decide +kernel) h2
  have q3 := inr_rng (m := 1) (by decide +kernel) (n := 1000000) (by decide +kernel) h3
  refine ⟨?_, fun w hw => (H1 w hw).cg (Nat.le_refl _) (fun k hk => by rw [kk k (by omega)]), H2.cg (kk 2 (by decide)), ⟨fun i hi => ?_, by rw [kk 0 (by decide)]; exact H3.2⟩, H4.cg (kk 1 (by decide)) (kk 16 (by decide))⟩
  · obtain ⟨a1, a2, a3, a4, a5, a6, a7, a8, a9, a10⟩ := hI
    refine ⟨a1, by omega, a3, a4, by rw [kk 4 (by decide)]; exact a5, by rw [kk 4 (by decide)]; exact a6, by rw [kk 7 (by decide)]; exact a7, by rw [kk 5 (by decide)]; exact a8, fun o ho => ?_, by rw [kk 16 (by decide)]; exact a10⟩
    by_cases q : o = no
    · subst q
      exact ⟨w, hw, by rw [upF_s]; rfl⟩
    · rw [upF_i q]
      exact a9 o (by omega)
  · by_cases q : i = no
    · subst q
      rw [upF_s]
      show 0 ≤ p2.toInt ∧ 0 ≤ p3.toInt
      omega
    · rw [upF_i q]
      exact H3.1 i (by omega)
theorem J_rank (h : JK nw no nt wk κ) {w kv rv : Nat} {p2 : Int32} (hw : w < nw) (hr : rv < 3) (hp : p2 = nI rv) : JK nw no nt wk (tellK κ 5 6 w kv p2) := by
  obtain ⟨hI, H1, H2, H3, H4⟩ := h
  have kk : ∀ k, k ≠ 5 → k ≠ 6 → tellK κ 5 6 w kv p2 k = κ k := fun k a b => funext fun _ => by unfold tellK; rw [upF_k a, upF_k b]
  have k5 : tellK κ 5 6 w kv p2 5 w = tlV (va_up (κ 6 w) kv 1) p2 (30 - kv) (kv + 1) (va_up (κ 5 w) kv p2) := by unfold tellK; rw [upF_s]
  have ki : ∀ k i, i ≠ w → tellK κ 5 6 w kv p2 k i = κ k i := fun k i hi => by unfold tellK; rw [upF_i hi, upF_i hi]
  refine ⟨?_, fun w hw => (H1 w hw).cg (Nat.le_refl _) (fun k hk => by rw [kk k (by omega) (by omega)]), H2.cg (kk 2 (by decide) (by decide)), H3.cg (kk 15 (by decide) (by decide)) (kk 0 (by decide) (by decide)), H4.cg (kk 1 (by decide) (by decide)) (kk 16 (by decide) (by decide))⟩
  obtain ⟨a1, a2, a3, a4, a5, a6, a7, a8, a9, a10⟩ := hI
  refine ⟨a1, a2, a3, a4, by rw [kk 4 (by decide) (by decide)]; exact a5, by rw [kk 4 (by decide) (by decide)]; exact a6, by rw [kk 7 (by decide) (by decide)]; exact a7, fun i hi k hk2 => ?_, by rw [kk 15 (by decide) (by decide)]; exact a9, by rw [kk 16 (by decide) (by decide)]; exact a10⟩
  by_cases q : i = w
  · subst q
    rw [k5]
    exact tl_P (P := fun x => ∃ r, r < 3 ∧ x = nI r) _ _ ⟨rv, hr, hp⟩ (a8 i hi k hk2)
  · rw [ki 5 i q]
    exact a8 i hi k hk2
theorem sRr_tell (h : sRr κ) {I kv : Nat} {v : Int32} (hv : inr v 0 10000) : sRr (tellK κ 2 3 I kv v) := by
  intro r k hr hk
  have hR := inr_rng i_0 (n := 10000) (by decide +kernel) hv
  by_cases q : r = I
  · subst q
    have k2 : tellK κ 2 3 r kv v 2 r = tlV (va_up (κ 3 r) kv 1) v (30 - kv) (kv + 1) (va_up (κ 2 r) kv v) := by unfold tellK; rw [upF_s]
    rw [k2]
    exact tl_P (P := fun x => 0 ≤ x.toInt ∧ x.toInt ≤ 10000) _ _ hR (h r k hr hk)
  · have ki : tellK κ 2 3 I kv v 2 r = κ 2 r := by unfold tellK; rw [upF_i q, upF_i q]
    rw [ki]
    exact h r k hr hk
theorem J_rates (h : JK nw no nt wk κ) {I I2 kv : Nat} {p2 p3 : Int32} (h2 : inr p2 0 10000) (h3 : inr p3 0 10000) : JK nw no nt wk (tellK (tellK κ 2 3 I kv p2) 2 3 I2 kv p3) := by
  obtain ⟨hI, H1, H2, H3, H4⟩ := h
  have kk : ∀ k, k ≠ 2 → k ≠ 3 → tellK (tellK κ 2 3 I kv p2) 2 3 I2 kv p3 k = κ k := fun k a b => funext fun _ => by
    unfold tellK
    rw [upF_k a, upF_k b, upF_k a, upF_k b]
  exact ⟨hI.of (fun i => by rw [kk 4 (by decide) (by decide)]) (fun i => by rw [kk 4 (by decide) (by decide)]) (kk 7 (by decide) (by decide)) (kk 5 (by decide) (by decide)) (fun o => by rw [kk 15 (by decide) (by decide)]) (kk 16 (by decide) (by decide)), fun w hw => (H1 w hw).cg (Nat.le_refl _) (fun k hk => by rw [kk k (by omega) (by omega)]), sRr_tell (sRr_tell H2 h2) h3, H3.cg (kk 15 (by decide) (by decide)) (kk 0 (by decide) (by decide)), H4.cg (kk 1 (by decide) (by decide)) (kk 16 (by decide) (by decide))⟩
/-- hours that change -/
theorem jW.hours {κ2 : cS} {w v : Nat} (h : jW κ w v) (e : ∀ k, k = 4 ∨ (10 ≤ k ∧ k ≤ 14) → ∀ t, ¬ (k = 4 ∧ t = 1) → κ2 k w t = κ k w t) (hh : sHr κ2 w) : jW κ2 w v := by
  obtain ⟨⟨⟨a1, a2⟩, a3, a4⟩, b, c, d, f, g⟩ := h
  have hs : ∀ k p, p ≤ 3 → spC κ2 w k p = spC κ w k p := fun k p hp => by
    unfold spC
    rw [e 10 (by omega) k (by omega), e (11 + p) (by omega) k (by omega)]
  have h42 := e 4 (by omega) 2 (by omega)
  have h43 := e 4 (by omega) 3 (by omega)
  have h44 := e 4 (by omega) 4 (by omega)
  refine ⟨⟨⟨by rw [h42]; exact a1, by rw [h42]; exact a2⟩, by rw [h43]; exact a3, by rw [h43]; omega⟩, hh, fun k hk => ?_, fun k k1 k2 => by rw [e 10 (by omega) k (by omega)]; exact d k (by omega) k2, ?_, ?_⟩
  · unfold sOk
    rw [hs k 0 (by omega), hs k 1 (by omega), hs k 2 (by omega), hs k 3 (by omega)]
    exact c k hk
  · rw [h42, h44, f]
    exact gS_eq 31 (fun k _ => (hs k 0 (by omega)).symm)
  · rw [h43, h44, gS_eq 31 (fun k _ => hs k 1 (by omega))]
    exact g
theorem J_corr (h : JK nw no nt wk κ) {w s : Nat} {p2 p3 : Int32} (h2 : inr p2 0 100) (h3 : inr p3 0 100) : JK nw no nt wk (coK κ w s p2 p3) := by
  obtain ⟨hI, H1, H2, H3, H4⟩ := h
  have kk : ∀ k, k ≠ 8 → k ≠ 9 → coK κ w s p2 p3 k = κ k := fun k a b => funext fun _ => by unfold coK; rw [upF_k b, upF_k a]
  have k8 : coK κ w s p2 p3 8 w = va_up (κ 8 w) s p2 := by unfold coK; rw [upF_k (by decide), upF_s]
  have k9 : coK κ w s p2 p3 9 w = va_up (κ 9 w) s p3 := by unfold coK; rw [upF_s, upF_k (by decide)]
  have ki : ∀ k i, i ≠ w → coK κ w s p2 p3 k i = κ k i := fun k i hi => by unfold coK; rw [upF_i hi, upF_i hi]
  have r2 := inr_rng i_0 (n := 100) (by decide +kernel) h2
  have r3 := inr_rng i_0 (n := 100) (by decide +kernel) h3
  refine ⟨hI.of (fun i => by rw [kk 4 (by decide) (by decide)]) (fun i => by rw [kk 4 (by decide) (by decide)]) (kk 7 (by decide) (by decide)) (kk 5 (by decide) (by decide)) (fun o => by rw [kk 15 (by decide) (by decide)]) (kk 16 (by decide) (by decide)), fun i hi => ?_, H2.cg (kk 2 (by decide) (by decide)), H3.cg (kk 15 (by decide) (by decide)) (kk 0 (by decide) (by decide)), H4.cg (kk 1 (by decide) (by decide)) (kk 16 (by decide) (by decide))⟩
  refine (H1 i hi).hours (fun k hk t _ => by rw [kk k (by omega) (by omega)]) (fun t ht z => ?_)
  rw [kk 7 (by decide) (by decide)] at z
  by_cases q : i = w
  · subst q
    rw [k8, k9]
    by_cases q : t = s
    · subst q
      rw [va_up_s, va_up_s]
      exact ⟨r2.1, r2.2, r3⟩
    · rw [va_up_n q, va_up_n q]
      exact (H1 i hi).2.1 t ht z
  · rw [ki 8 i q, ki 9 i q]
    exact (H1 i hi).2.1 t ht z
theorem J_come (h : JK nw no nt wk κ) {w s kv cn : Nat} {p3 p4 : Int32} (hw : w < nw) (hk : kv ≤ 30) (h3 : inr p3 0 100) (h4 : inr p4 0 100) (hc : cn ≤ 20) : JK nw no nt wk (shK κ w s kv p3 p4 (nI cn)) := by
  obtain ⟨hI, H1, H2, H3, H4⟩ := h
  have kk : ∀ k, (k ≠ 4 ∧ k ≠ 7 ∧ k ≠ 8 ∧ k ≠ 9) → shK κ w s kv p3 p4 (nI cn) k = κ k := fun k ⟨a, b, c, d⟩ => funext fun _ => by unfold shK; rw [upF_k a, upF_k d, upF_k c, upF_k b]
  have k7 : shK κ w s kv p3 p4 (nI cn) 7 w = va_up (κ 7 w) s (nI kv) := by unfold shK; rw [upF_k (by decide), upF_k (by decide), upF_k (by decide), upF_s]
  have k8 : shK κ w s kv p3 p4 (nI cn) 8 w = va_up (κ 8 w) s p3 := by unfold shK; rw [upF_k (by decide), upF_k (by decide), upF_s]
  have k9 : shK κ w s kv p3 p4 (nI cn) 9 w = va_up (κ 9 w) s p4 := by unfold shK; rw [upF_k (by decide), upF_s]
  have k4 : shK κ w s kv p3 p4 (nI cn) 4 w = va_up (κ 4 w) 1 (nI cn) := by unfold shK; rw [upF_s]
  have ki : ∀ k i, i ≠ w → shK κ w s kv p3 p4 (nI cn) k i = κ k i := fun k i hi => by unfold shK; rw [upF_i hi, upF_i hi, upF_i hi, upF_i hi]
  have r2 := inr_rng i_0 (n := 100) (by decide +kernel) h3
  have r3 := inr_rng i_0 (n := 100) (by decide +kernel) h4
  refine ⟨?_, fun i hi => ?_, H2.cg (kk 2 (by decide)), H3.cg (kk 15 (by decide)) (kk 0 (by decide)), H4.cg (kk 1 (by decide)) (kk 16 (by decide))⟩
  · obtain ⟨a1, a2, a3, a4, a5, a6, a7, a8, a9, a10⟩ := hI
    refine ⟨a1, a2, a3, a4, fun i hi => ?_, fun i hi => ?_, fun i hi t ht => ?_, by rw [kk 5 (by decide)]; exact a8, by rw [kk 15 (by decide)]; exact a9, by rw [kk 16 (by decide)]; exact a10⟩
    · by_cases q : i = w
      · subst q
        rw [k4, va_up_n (by decide)]
        exact a5 i hi
      · rw [ki 4 i q]; exact a5 i hi
    · by_cases q : i = w
      · subst q
        rw [k4, va_up_s]
        exact ⟨cn, hc, rfl⟩
      · rw [ki 4 i q]; exact a6 i hi
    · by_cases q : i = w
      · subst q
        rw [k7]
        by_cases q : t = s
        · subst q
          rw [va_up_s]
          exact Or.inr ⟨kv, by omega, rfl⟩
        · rw [va_up_n q]; exact a7 i hi t ht
      · rw [ki 7 i q]; exact a7 i hi t ht
  · by_cases q : i = w
    · subst q
      refine (H1 i hi).hours (fun k hk t ht => ?_) (fun t ht z => ?_)
      · by_cases q4 : k = 4
        · subst q4
          rw [k4, va_up_n (by omega)]
        · rw [kk k (by omega)]
      · rw [k7] at z
        rw [k8, k9]
        by_cases q : t = s
        · subst q
          rw [va_up_s, va_up_s]
          exact ⟨r2.1, r2.2, r3⟩
        · rw [va_up_n q] at z
          rw [va_up_n q, va_up_n q]
          exact (H1 i hi).2.1 t ht z
    · exact (H1 i hi).cg (Nat.le_refl _) (fun k _ => ki k i q)
theorem J_add (h : JK nw no nt wk κ) {ev : Nat} (he : ev < 3) (hn : nw < 8) : JK (nw + 1) no nt wk (nwK κ nw ev) := by
  obtain ⟨hI, H1, H2, H3, H4⟩ := h
  have kk : ∀ k, (k ≠ 4 ∧ k ≠ 5 ∧ k ≠ 6 ∧ k ≠ 7 ∧ k ≠ 10) → nwK κ nw ev k = κ k := fun k ⟨a, b, c, d, e⟩ => nwK_k a b c d e
  refine ⟨hI.newW he hn, fun i hi => ?_, H2.cg (kk 2 (by decide)), H3.cg (kk 15 (by decide)) (kk 0 (by decide)), H4.cg (kk 1 (by decide)) (kk 16 (by decide))⟩
  by_cases q : i = nw
  · subst q
    have a : ∀ t, nwK κ i ev 4 i t = wrow0 ev t := fun t => by rw [nwK_4]
    have hsp : ∀ k p, spC (nwK κ i ev) i k p = 0 := by
      intro k p
      unfold spC
      rw [nwK_10, if_neg (show ¬ ((0 : Int32) = 1) by decide)]
    refine ⟨⟨?_, ?_⟩, fun s hs z => ?_, fun k hk => sOk_0 (fun p _ => hsp k p), fun k _ _ => ?_, ?_, ?_⟩
    · rw [a]
      show 0 ≤ (0 : Int32).toInt ∧ (0 : Int32).toInt ≤ 40000000
      rw [i_0]; omega
    · rw [a]
      show 0 ≤ (0 : Int32).toInt ∧ (0 : Int32).toInt ≤ 40000000 * ((wk : Nat) : Int)
      rw [i_0]; omega
    · rw [nwK_7] at z
      exact absurd rfl z
    · rw [nwK_10]
      exact (by decide : ¬ ((0 : Int32) = 1))
    · rw [a, a, gS_zero 31 (fun k _ => hsp k 0)]
      rfl
    · rw [a, a, gS_zero 31 (fun k _ => hsp k 1)]
      rfl
  · exact (H1 i (by omega)).cg (Nat.le_refl _) (fun k _ => nwK_i q)
end JST
