/-! EVERY CALL keeps what holds -/
theorem J.nS {S : pS} (h : J S) : nS S := fun hk w hw => (h.2.1 w hw).2.2.2.1 S.2.2.2.1 (Nat.le_refl _) hk
theorem ne9 {x : Int32} (h : 0 ≤ x.toInt) : ¬ x = -900000001 := fun z => by
  have h2 : (-900000001 : Int32).toInt = -900000001 := by decide +kernel
  rw [z, h2] at h
  omega
section JF
variable {S S2 : pS} {r : Int32}
theorem J_addF {p0 : Int32} (h : J S) (e : addF p0 S = some (r, S2)) : J S2 ∧ ¬ r = -900000001 ∧ S2.1 = S.1 + 1 ∧ r = nI S.1 := by
  unfold addF at e
  by_cases z : inr p0 0 2 ∧ S.1 < 8
  · rw [if_pos z] at e
    cases e
    obtain ⟨ev, h1, rfl⟩ := inr_of (n := 2) rfl z.1
    refine ⟨?_, nI_m9 (by omega), rfl, rfl⟩
    show JK (S.1 + 1) S.2.1 S.2.2.1 S.2.2.2.1 (nwK S.2.2.2.2 S.1 (nI ev).toNatClampNeg)
    rw [nI_clamp (n := ev) (by omega)]
    exact J_add h (by omega) z.2
  · rw [if_neg z] at e; cases e
theorem J_rankF {p0 p1 p2 : Int32} (h : J S) (e : rankF p0 p1 p2 S = some (r, S2)) : J S2 ∧ ¬ r = -900000001 ∧ S2.1 = S.1 := by
  unfold rankF at e
  have h8 := h.1.1
  by_cases z : inr p0 0 (nI S.1 - 1) ∧ inr p2 0 2 ∧ inr p1 0 30
  · rw [if_pos z] at e
    cases e
    obtain ⟨w, w1, rfl⟩ := inr_w (by omega) z.1
    obtain ⟨rv, r1, rfl⟩ := inr_of (n := 2) rfl z.2.1
    obtain ⟨kv, k1, rfl⟩ := inr_of (n := 30) rfl z.2.2
    rw [nI_clamp (n := w) (by omega), nI_clamp (n := kv) (by omega)]
    obtain ⟨q, q1, q2⟩ := h.1.2.2.2.2.2.2.2.1 w w1 kv (by omega)
    exact ⟨J_rank h w1 (rv := rv) (by omega) rfl, by rw [q2]; exact nI_m9 (by omega), rfl⟩
  · rw [if_neg z] at e; cases e
theorem J_ratesF {p0 p1 p2 p3 : Int32} (h : J S) (e : ratesF p0 p1 p2 p3 S = some (r, S2)) : J S2 ∧ ¬ r = -900000001 ∧ S2.1 = S.1 := by
  unfold ratesF at e
  by_cases z : inr p0 0 2 ∧ inr p1 0 30 ∧ inr p2 0 10000 ∧ inr p3 0 10000
  · rw [if_pos z] at e
    cases e
    obtain ⟨rv, r1, rfl⟩ := inr_of (n := 2) rfl z.1
    obtain ⟨kv, k1, rfl⟩ := inr_of (n := 30) rfl z.2.1
    rw [nI_clamp (n := rv) (by omega), nI_clamp (n := kv) (by omega)]
    exact ⟨J_rates h z.2.2.1 z.2.2.2, ne9 (h.2.2.1 (2 * rv) kv (by omega) (by omega)).1, rfl⟩
  · rw [if_neg z] at e; cases e
theorem J_corrF {p0 p1 p2 p3 : Int32} (h : J S) (e : corrF p0 p1 p2 p3 S = some (r, S2)) : J S2 ∧ ¬ r = -900000001 ∧ S2.1 = S.1 := by
  unfold corrF at e
  have h8 := h.1.1
  by_cases z : inr p0 0 (nI S.1 - 1) ∧ inr p1 0 19 ∧ ¬ S.2.2.2.2 7 p0.toNatClampNeg p1.toNatClampNeg = -1 ∧ inr p2 0 100 ∧ inr p3 0 100
  · rw [if_pos z] at e
    cases e
    obtain ⟨z1, z2, z3, z4, z5⟩ := z
    obtain ⟨w, w1, rfl⟩ := inr_w (by omega) z1
    obtain ⟨s, s1, rfl⟩ := inr_of (n := 19) rfl z2
    rw [nI_clamp (n := w) (by omega), nI_clamp (n := s) (by omega)] at z3 ⊢
    have hh := (h.2.1 w w1).2.1 s (by omega) z3
    exact ⟨J_corr h z4 z5, ne9 (by rw [i_add (by omega) (by omega)]; omega), rfl⟩
  · rw [if_neg z] at e; cases e
theorem J_orderF {p0 p1 p2 p3 : Int32} (h : J S) (e : orderF p0 p1 p2 p3 S = some (r, S2)) : J S2 ∧ ¬ r = -900000001 ∧ S2.1 = S.1 := by
  unfold orderF at e
  have h8 := h.1.1
  by_cases z : inr p0 0 (nI S.1 - 1) ∧ inr p1 0 2 ∧ inr p2 1 10000000 ∧ inr p3 1 1000000 ∧ S.2.1 < 20
  · rw [if_pos z] at e
    cases e
    obtain ⟨w, w1, rfl⟩ := inr_w (by omega) z.1
    rw [nI_clamp (n := w) (by omega)]
    exact ⟨J_order h w1 z.2.2.1 z.2.2.2.1 z.2.2.2.2, nI_m9 (by omega), rfl⟩
  · rw [if_neg z] at e; cases e
theorem J_floorF {p0 : Int32} (h : J S) (e : floorF p0 S = some (r, S2)) : J S2 ∧ ¬ r = -900000001 ∧ S2.1 = S.1 := by
  unfold floorF at e
  by_cases z : inr p0 0 10000000
  · rw [if_pos z] at e
    cases e
    exact ⟨J_floor h z, ne9 h.2.2.2.1.2.1, rfl⟩
  · rw [if_neg z] at e; cases e
theorem J_fillF {p0 p1 : Int32} (h : J S) (e : fillF p0 p1 S = some (r, S2)) : J S2 ∧ ¬ r = -900000001 ∧ S2.1 = S.1 := by
  unfold fillF at e
  by_cases z : inr p0 0 2 ∧ inr p1 1 10000000 ∧ S.2.2.1 < 40
  · rw [if_pos z] at e
    cases e
    obtain ⟨ev, r1, rfl⟩ := inr_of (n := 2) rfl z.1
    rw [nI_clamp (n := ev) (by omega)]
    exact ⟨J_fill h (by omega) z.2.1 z.2.2, nI_m9 (by omega), rfl⟩
  · rw [if_neg z] at e; cases e
theorem J_bncF {p0 : Int32} (h : J S) (e : bncF p0 S = some (r, S2)) : J S2 ∧ ¬ r = -900000001 ∧ S2.1 = S.1 := by
  unfold bncF at e
  have h9 := h.1.2.2.1
  by_cases z : inr p0 0 (nI S.2.2.1 - 1) ∧ S.2.2.2.2 16 p0.toNatClampNeg 2 = 0
  · rw [if_pos z] at e
    cases e
    obtain ⟨z1, z2⟩ := z
    obtain ⟨j, j1, rfl⟩ := inr_w (by omega) z1
    rw [nI_clamp (n := j) (by omega)] at z2 ⊢
    obtain ⟨ev, e1, e2⟩ := h.1.2.2.2.2.2.2.2.2.2 j j1
    rw [e2, nI_clamp (n := ev) (by omega)]
    have hb := J_bounce h j1 e1 z2
    exact ⟨hb.1, ne9 hb.2.1, rfl⟩
  · rw [if_neg z] at e; cases e
theorem J_closeF (h : J S) (e : closeF S = some (r, S2)) : J S2 ∧ ¬ r = -900000001 ∧ S2.1 = S.1 := by
  unfold closeF at e
  have h8 := h.1.1
  by_cases z : S.2.2.2.1 < 31
  · rw [if_pos z] at e
    cases e
    obtain ⟨-, -, -, -, -, -, -, -, c, a9, a10⟩ := jC_all h z
    exact ⟨J_close h z, by rw [a10]; exact nI_m9 (by omega), rfl⟩
  · rw [if_neg z] at e; cases e
theorem J_comeF {p0 p1 p2 p3 p4 : Int32} (h : J S) (e : comeF p0 p1 p2 p3 p4 S = some (r, S2)) : J S2 ∧ ¬ r = -900000001 ∧ S2.1 = S.1 := by
  unfold comeF at e
  have h8 := h.1.1
  by_cases z : inr p0 0 (nI S.1 - 1) ∧ inr p1 0 19 ∧ inr p2 0 30 ∧ inr p3 0 100 ∧ inr p4 0 100
  · rw [if_pos z] at e
    obtain ⟨w, w1, rfl⟩ := inr_w (by omega) z.1
    obtain ⟨s, s1, rfl⟩ := inr_of (n := 19) rfl z.2.1
    obtain ⟨kv, k1, rfl⟩ := inr_of (n := 30) rfl z.2.2.1
    rw [nI_clamp (n := w) (by omega), nI_clamp (n := s) (by omega), nI_clamp (n := kv) (by omega)] at e
    obtain ⟨cn, c1, c2⟩ := h.1.2.2.2.2.2.1 w w1
    by_cases y : S.2.2.2.2 7 w s = -1
    · rw [if_pos y] at e
      cases e
      have hle := cnR_le (g := va_up (S.2.2.2.2 7 w) s (nI kv)) (20 - cn) cn
      have ec : cnF S.2.2.2.2 w s kv = nI (cnR (va_up (S.2.2.2.2 7 w) s (nI kv)) (20 - cn) cn) := by unfold cnF; rw [c2, nI_clamp (n := cn) (by omega)]
      rw [ec]
      exact ⟨J_come h w1 k1 z.2.2.2.1 z.2.2.2.2 (by omega), nI_m9 (by omega), rfl⟩
    · rw [if_neg y] at e
      cases e
      exact ⟨h, by rw [c2]; exact nI_m9 (by omega), rfl⟩
  · rw [if_neg z] at e; cases e
theorem J_does {how a b c d : Int32} (h : J S) (hh : ¬ how = 0) (e : doesF how a b c d S = some (r, S2)) : J S2 ∧ ¬ r = -900000001 ∧ S2.1 = S.1 := by
  unfold doesF at e
  rw [if_neg hh] at e
  by_cases h1 : how = 1
  · rw [if_pos h1] at e; exact J_rankF h e
  rw [if_neg h1] at e
  by_cases h2 : how = 2
  · rw [if_pos h2] at e; exact J_ratesF h e
  rw [if_neg h2] at e
  by_cases h3 : how = 3
  · rw [if_pos h3] at e; exact J_corrF h e
  rw [if_neg h3] at e
  by_cases h4 : how = 4
  · rw [if_pos h4] at e; exact J_orderF h e
  rw [if_neg h4] at e
  by_cases h5 : how = 5
  · rw [if_pos h5] at e; exact J_floorF h e
  rw [if_neg h5] at e
  by_cases h6 : how = 6
  · rw [if_pos h6] at e; exact J_fillF h e
  rw [if_neg h6] at e
  by_cases h7 : how = 7
  · rw [if_pos h7] at e; exact J_bncF h e
  rw [if_neg h7] at e
  exact J_closeF h e
/-- of a call that isn't addWorker -/
def kind (o : Option (Int32 × pS)) (S : pS) : Prop := (∃ how a b c d, ¬ how = 0 ∧ o = doesF how a b c d S) ∨ ∃ a b c d f, o = comeF a b c d f S
theorem kind.d {how a b c d : Int32} (h : ¬ how = 0) : kind (doesF how a b c d S) S := Or.inl ⟨how, a, b, c, d, h, rfl⟩
theorem kind.c {a b c d f : Int32} : kind (comeF a b c d f S) S := Or.inr ⟨a, b, c, d, f, rfl⟩
theorem kind.i {P : Prop} [Decidable P] {o1 o2 : Option (Int32 × pS)} (h1 : kind o1 S) (h2 : kind o2 S) : kind (if P then o1 else o2) S := by
  by_cases z : P
  · rw [if_pos z]; exact h1
  · rw [if_neg z]; exact h2
theorem kind_act {v : Int32} : kind (actF v S) S := by
  unfold actF actX actY
  repeat' (first | with_reducible apply kind.i | with_reducible exact kind.c | with_reducible refine kind.d ?_)
  all_goals decide
theorem J_act {v : Int32} (h : J S) (e : actF v S = some (r, S2)) : J S2 ∧ ¬ r = -900000001 ∧ S2.1 = S.1 := by
  rcases kind_act (v := v) (S := S) with ⟨how, a, b, c, d, hh, k⟩ | ⟨a, b, c, d, f, k⟩
  · exact J_does h hh (k ▸ e)
  · exact J_comeF h (k ▸ e)
theorem J_stp (h : J S) (e : stp (closeF S) S S2) : J S2 ∧ S2.1 = S.1 := by
  rcases e with ⟨-, rfl⟩ | ⟨r, e⟩
  · exact ⟨h, rfl⟩
  · exact ⟨(J_closeF h e).1, (J_closeF h e).2.2⟩
theorem J_bstp {e9 : Nat} {am : Int32} (h : J S) (e : bstp S e9 am S2) : J S2 ∧ S2.1 = S.1 := by
  rcases e with ⟨-, rfl⟩ | ⟨S1, r2, e1, e2⟩
  · exact ⟨h, rfl⟩
  · have h1 := J_fillF h e1
    have h2 := J_bncF h1.1 e2
    exact ⟨h2.1, h2.2.2.trans h1.2.2⟩
end JF
theorem J_init : J (0, 0, 0, 0, kap0) := by
  refine ⟨⟨by decide, by decide, by decide, by decide, fun w h => absurd h (Nat.not_lt_zero _), fun w h => absurd h (Nat.not_lt_zero _), fun w h => absurd h (Nat.not_lt_zero _), fun w h => absurd h (Nat.not_lt_zero _), fun w h => absurd h (Nat.not_lt_zero _), fun w h => absurd h (Nat.not_lt_zero _)⟩, fun w h => absurd h (Nat.not_lt_zero _), fun r k hr hk => ?_, ⟨fun i h => absurd h (Nat.not_lt_zero _), ?_⟩, ⟨fun e he => ?_, fun t h => absurd h (Nat.not_lt_zero _)⟩⟩
  · have : kap0 2 r k = 1000 ∨ kap0 2 r k = 1500 := by
      show (if r % 2 = 0 then fillv 1000 31 else fillv 1500 31) k = 1000 ∨ _
      by_cases z : r % 2 = 0
      · rw [if_pos z]; exact Or.inl (if_pos hk)
      · refine Or.inr ?_
        show (if r % 2 = 0 then fillv 1000 31 else fillv 1500 31) k = 1500
        rw [if_neg z]; exact if_pos hk
    show 0 ≤ (kap0 2 r k).toInt ∧ (kap0 2 r k).toInt ≤ 10000
    rcases this with e | e
    · rw [e]; decide +kernel
    · rw [e]; decide +kernel
  · show 0 ≤ (kap0 0 0 0).toInt ∧ (kap0 0 0 0).toInt ≤ 10000000
    decide +kernel
  · have e0 : kap0 1 e 0 = 0 := rfl
    have e1 : kap0 1 e 1 = 0 := rfl
    show (0 ≤ (kap0 1 e 0).toInt ∧ (kap0 1 e 0).toInt ≤ 10000000 * ((0 : Nat) : Int)) ∧ 0 ≤ (kap0 1 e 1).toInt ∧ (kap0 1 e 1).toInt ≤ 10000000 * ((cB kap0 0 : Nat) : Int)
    rw [e0, e1, i_0]
    show (0 ≤ (0 : Int) ∧ (0 : Int) ≤ 10000000 * ((0 : Nat) : Int)) ∧ 0 ≤ (0 : Int) ∧ (0 : Int) ≤ 10000000 * ((0 : Nat) : Int)
    omega
