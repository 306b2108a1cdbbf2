/-! THE CLASS'S CALLS as functions of its numbers: none where it throws -/
def dPo (y : Nat → ClassId) (f : fw_F) (α : Nat → Nat → Nat → Nat) (o : Option (Int32 × pS)) : Int32 → fw_F → Prop := fun r f1 => (o = none ∧ r = -900000001 ∧ f1 = f) ∨ ∃ S2 α2, o = some (r, S2) ∧ α2 0 0 0 = α 0 0 0 ∧ RS y S2 α2 f1
def xPo (y : Nat → ClassId) (α : Nat → Nat → Nat → Nat) (o : Option (Int32 × pS)) : Int32 → fw_F → Prop := fun r f1 => ∃ S2 α2, o = some (r, S2) ∧ α2 0 0 0 = α 0 0 0 ∧ RS y S2 α2 f1
def bnK (κ : cS) (j ev : Nat) : cS := upF (upF κ 16 j (va_up (κ 16 j) 2 1)) 1 ev (va_up (va_up ((upF κ 16 j (va_up (κ 16 j) 2 1)) 1 ev) 0 (κ 1 ev 0 - (if κ 16 j 1 < κ 1 ev 0 then κ 16 j 1 else κ 1 ev 0))) 1 (κ 1 ev 1 + (κ 16 j 1 - (if κ 16 j 1 < κ 1 ev 0 then κ 16 j 1 else κ 1 ev 0))))
def fiK (κ : cS) (nt ev : Nat) (p1 : Int32) : cS := upF (upF κ 16 nt (orow ev p1 0 0)) 1 ev (va_up (va_up ((upF κ 16 nt (orow ev p1 0 0)) 1 ev) 0 (κ 1 ev 0 + (p1 - (if p1 < κ 1 ev 1 then p1 else κ 1 ev 1)))) 1 (κ 1 ev 1 - (if p1 < κ 1 ev 1 then p1 else κ 1 ev 1)))
def coK (κ : cS) (w s : Nat) (a b : Int32) : cS := upF (upF κ 8 w (va_up (κ 8 w) s a)) 9 w (va_up (upF κ 8 w (va_up (κ 8 w) s a) 9 w) s b)
def addF (p0 : Int32) (S : pS) : Option (Int32 × pS) := if inr p0 0 2 ∧ S.1 < 8 then some (nI S.1, (S.1 + 1, S.2.1, S.2.2.1, S.2.2.2.1, nwK S.2.2.2.2 S.1 p0.toNatClampNeg)) else none
def rankF (p0 p1 p2 : Int32) (S : pS) : Option (Int32 × pS) := if inr p0 0 (nI S.1 - 1) ∧ inr p2 0 2 ∧ inr p1 0 30 then some (S.2.2.2.2 5 p0.toNatClampNeg p1.toNatClampNeg, (S.1, S.2.1, S.2.2.1, S.2.2.2.1, tellK S.2.2.2.2 5 6 p0.toNatClampNeg p1.toNatClampNeg p2)) else none
def ratesF (p0 p1 p2 p3 : Int32) (S : pS) : Option (Int32 × pS) := if inr p0 0 2 ∧ inr p1 0 30 ∧ inr p2 0 10000 ∧ inr p3 0 10000 then some (S.2.2.2.2 2 (2 * p0.toNatClampNeg) p1.toNatClampNeg, (S.1, S.2.1, S.2.2.1, S.2.2.2.1, tellK (tellK S.2.2.2.2 2 3 (2 * p0.toNatClampNeg) p1.toNatClampNeg p2) 2 3 (2 * p0.toNatClampNeg + 1) p1.toNatClampNeg p3)) else none
def corrF (p0 p1 p2 p3 : Int32) (S : pS) : Option (Int32 × pS) := if inr p0 0 (nI S.1 - 1) ∧ inr p1 0 19 ∧ ¬ S.2.2.2.2 7 p0.toNatClampNeg p1.toNatClampNeg = -1 ∧ inr p2 0 100 ∧ inr p3 0 100 then some (S.2.2.2.2 8 p0.toNatClampNeg p1.toNatClampNeg + S.2.2.2.2 9 p0.toNatClampNeg p1.toNatClampNeg, (S.1, S.2.1, S.2.2.1, S.2.2.2.1, coK S.2.2.2.2 p0.toNatClampNeg p1.toNatClampNeg p2 p3)) else none
def orderF (p0 p1 p2 p3 : Int32) (S : pS) : Option (Int32 × pS) := if inr p0 0 (nI S.1 - 1) ∧ inr p1 0 2 ∧ inr p2 1 10000000 ∧ inr p3 1 1000000 ∧ S.2.1 < 20 then some (nI S.2.1, (S.1, S.2.1 + 1, S.2.2.1, S.2.2.2.1, upF S.2.2.2.2 15 S.2.1 (orow p0.toNatClampNeg p1 p2 p3))) else none
def floorF (p0 : Int32) (S : pS) : Option (Int32 × pS) := if inr p0 0 10000000 then some (S.2.2.2.2 0 0 0, (S.1, S.2.1, S.2.2.1, S.2.2.2.1, upF S.2.2.2.2 0 0 (va_up (S.2.2.2.2 0 0) 0 p0))) else none
def fillF (p0 p1 : Int32) (S : pS) : Option (Int32 × pS) := if inr p0 0 2 ∧ inr p1 1 10000000 ∧ S.2.2.1 < 40 then some (nI S.2.2.1, (S.1, S.2.1, S.2.2.1 + 1, S.2.2.2.1, fiK S.2.2.2.2 S.2.2.1 p0.toNatClampNeg p1)) else none
def bncF (p0 : Int32) (S : pS) : Option (Int32 × pS) := if inr p0 0 (nI S.2.2.1 - 1) ∧ S.2.2.2.2 16 p0.toNatClampNeg 2 = 0 then some (bnK S.2.2.2.2 p0.toNatClampNeg (S.2.2.2.2 16 p0.toNatClampNeg 0).toNatClampNeg 1 (S.2.2.2.2 16 p0.toNatClampNeg 0).toNatClampNeg 1, (S.1, S.2.1, S.2.2.1, S.2.2.2.1, bnK S.2.2.2.2 p0.toNatClampNeg (S.2.2.2.2 16 p0.toNatClampNeg 0).toNatClampNeg)) else none
def closeF (S : pS) : Option (Int32 × pS) := if S.2.2.2.1 < 31 then some ((csC S.2.2.2.2 S.1 S.2.1 S.2.2.2.1 8).2, (S.1, S.2.1, S.2.2.1, S.2.2.2.1 + 1, (csC S.2.2.2.2 S.1 S.2.1 S.2.2.2.1 8).1)) else none
def cnF (κ : cS) (w s kv : Nat) : Int32 := nI (cnR (va_up (κ 7 w) s (nI kv)) (20 - (κ 4 w 1).toNatClampNeg) (κ 4 w 1).toNatClampNeg)
def comeF (p0 p1 p2 p3 p4 : Int32) (S : pS) : Option (Int32 × pS) := if inr p0 0 (nI S.1 - 1) ∧ inr p1 0 19 ∧ inr p2 0 30 ∧ inr p3 0 100 ∧ inr p4 0 100 then (if S.2.2.2.2 7 p0.toNatClampNeg p1.toNatClampNeg = -1 then some (cnF S.2.2.2.2 p0.toNatClampNeg p1.toNatClampNeg p2.toNatClampNeg, (S.1, S.2.1, S.2.2.1, S.2.2.2.1, shK S.2.2.2.2 p0.toNatClampNeg p1.toNatClampNeg p2.toNatClampNeg p3 p4 (cnF S.2.2.2.2 p0.toNatClampNeg p1.toNatClampNeg p2.toNatClampNeg))) else some (S.2.2.2.2 4 p0.toNatClampNeg 1, S)) else none
/-- no slip of the week of now yet -/
def nS (S : pS) : Prop := S.2.2.2.1 < 31 → ∀ w, w < S.1 → ¬ S.2.2.2.2 10 w S.2.2.2.1 = 1
section XC
variable {l : Launch} {D : va_G} {A : Nat → Prop} {y : Nat → ClassId} {sa : Nat → Nat} {f : fw_F} {α : Nat → Nat → Nat → Nat} {S : pS}
theorem vx_post {yy : MethodName} {ws : List Cond} {rm : Room} {av : List Value} {mc ms : Nat} {post post' : Int32 → fw_F → Prop} {thr thr' : String → Prop} (h : vx_Met l yy ws rm (cPc D A y sa f av) (cQi D A post) (cX D A f thr) mc ms A) (hp : ∀ r f1, post r f1 → post' r f1) (ht : ∀ E, thr E → thr' E) : vx_Met l yy ws rm (cPc D A y sa f av) (cQi D A post') (cX D A f thr') mc ms A := by
  refine MetFree.mono h (fun _ _ q => q) (fun _ _ _ _ _ q => q) (fun a s o t _ hq => ?_)
  rcases hq with ⟨⟨⟨r, u, e1, e2, e3⟩, hF⟩, hL⟩ | ⟨q, e0, E, ce, L, ⟨u, h1, h2, h3⟩, h4⟩
  · exact Or.inl ⟨⟨⟨r, u, e1, hp r u e2, e3⟩, hF⟩, hL⟩
  · exact Or.inr ⟨q, e0, E, ce, L, ⟨u, h1, ⟨ht E h2.1, h2.2⟩, h3⟩, h4⟩
theorem x_addWorker (hfl : l.stackTraces = false) (p0 : Int32) (hI : IS S) (hR : RS y S α f) : vx_Met l yX8_addWorker wsX8_addWorker ({ frames := 7, cells := 7, slots := 131, locals := 110 } : Room) (cPc D A y sa f [.ref (α 0 0 0), .int p0]) (cQi D A (xPo y α (addF p0 S))) (cX D A f (fun E => (E = nIOB ∨ E = nIAE ∨ E = nISE) ∧ addF p0 S = none)) 7 131 A := by
  refine vx_post (c_X8_addWorker l D A y sa f hfl α S.2.2.2.2 S.1 S.2.1 S.2.2.1 S.2.2.2.1 p0 hI hR) (fun r f1 hq => ?_) (fun E q => ?_)
  · obtain ⟨ev, α2, h1, rfl, h3, rfl, h5, h6⟩ := hq
    refine ⟨_, α2, if_pos ⟨inr_nI (n := 2) (by omega) (by decide), h3⟩, h5, ?_⟩
    rw [nI_clamp (n := ev) (by omega)]
    exact h6
  · rcases q with q | q
    · exact ⟨Or.inl q.1, if_neg (fun z => q.2 z.1)⟩
    · exact ⟨Or.inr (Or.inr q.1), if_neg (fun z => by omega)⟩
theorem x_setRank (hfl : l.stackTraces = false) (p0 p1 p2 : Int32) (hI : IS S) (hR : RS y S α f) : vx_Met l yX8_setRank wsX8_setRank ({ frames := 8, cells := 3, slots := 18, locals := 130 } : Room) (cPc D A y sa f [.ref (α 0 0 0), .int p0, .int p1, .int p2]) (cQi D A (xPo y α (rankF p0 p1 p2 S))) (cX D A f (fun E => (E = nIOB ∨ E = nIAE ∨ E = nISE) ∧ rankF p0 p1 p2 S = none)) 3 18 A := by
  refine vx_post (c_X8_setRank l D A y sa f hfl α S.2.2.2.2 S.1 S.2.1 S.2.2.1 S.2.2.2.1 p0 p1 p2 hI hR) (fun r f1 hq => ?_) (fun E q => ?_)
  · obtain ⟨w, kv, rv, h1, h2, h3, rfl, rfl, rfl, h7, h8⟩ := hq
    have h9 := hI.1
    have e : rankF (nI w) (nI kv) (nI rv) S = _ := if_pos ⟨inr_wI h1 (by omega), inr_nI (n := 2) (by omega) (by decide), inr_nI (n := 30) (by omega) (by decide)⟩
    rw [nI_clamp (n := w) (by omega), nI_clamp (n := kv) (by omega)] at e
    exact ⟨_, α, by rw [e, h7], rfl, h8⟩
  · rcases q with q | q
    · exact ⟨Or.inl q.1, if_neg (fun z => q.2 ⟨z.1, z.2.1⟩)⟩
    · exact ⟨Or.inr (Or.inl q.1), if_neg (fun z => q.2.2.2 z.2.2)⟩
theorem x_setRates (hfl : l.stackTraces = false) (p0 p1 p2 p3 : Int32) (hI : IS S) (hR : RS y S α f) : vx_Met l yX8_setRates wsX8_setRates ({ frames := 8, cells := 4, slots := 24, locals := 130 } : Room) (cPc D A y sa f [.ref (α 0 0 0), .int p0, .int p1, .int p2, .int p3]) (cQi D A (xPo y α (ratesF p0 p1 p2 p3 S))) (cX D A f (fun E => (E = nIOB ∨ E = nIAE ∨ E = nISE) ∧ ratesF p0 p1 p2 p3 S = none)) 4 24 A := by
  refine vx_post (c_X8_setRates l D A y sa f hfl α S.2.2.2.2 S.1 S.2.1 S.2.2.1 S.2.2.2.1 p0 p1 p2 p3 hI hR) (fun r f1 hq => ?_) (fun E q => ?_)
  · obtain ⟨rv, kv, h1, h2, rfl, rfl, h3, h4, h7, h8⟩ := hq
    have e : ratesF (nI rv) (nI kv) p2 p3 S = _ := if_pos ⟨inr_nI (n := 2) (by omega) (by decide), inr_nI (n := 30) (by omega) (by decide), h3, h4⟩
    rw [nI_clamp (n := rv) (by omega), nI_clamp (n := kv) (by omega)] at e
    exact ⟨_, α, by rw [e, h7], rfl, h8⟩
  · rcases q with q | q
    · exact ⟨Or.inl q.1, if_neg (fun z => q.2 z.1)⟩
    · exact ⟨Or.inr (Or.inl q.1), if_neg (fun z => q.2.2 z.2)⟩
theorem x_correct (hfl : l.stackTraces = false) (p0 p1 p2 p3 : Int32) (hI : IS S) (hR : RS y S α f) : vx_Met l yX8_correct wsX8_correct ({ frames := 8, cells := 3, slots := 18, locals := 131 } : Room) (cPc D A y sa f [.ref (α 0 0 0), .int p0, .int p1, .int p2, .int p3]) (cQi D A (xPo y α (corrF p0 p1 p2 p3 S))) (cX D A f (fun E => (E = nIOB ∨ E = nIAE ∨ E = nISE) ∧ corrF p0 p1 p2 p3 S = none)) 3 18 A := by
  refine vx_post (c_X8_correct l D A y sa f hfl α S.2.2.2.2 S.1 S.2.1 S.2.2.1 S.2.2.2.1 p0 p1 p2 p3 hI hR) (fun r f1 hq => ?_) (fun E q => ?_)
  · obtain ⟨w, s, h1, h2, rfl, rfl, h3, h4, h5, h7, h8⟩ := hq
    have h9 := hI.1
    have e : corrF (nI w) (nI s) p2 p3 S = _ := if_pos ⟨inr_wI h1 (by omega), inr_nI (n := 19) (by omega) (by decide), by rw [nI_clamp (n := w) (by omega), nI_clamp (n := s) (by omega)]; exact h3, h4, h5⟩
    rw [nI_clamp (n := w) (by omega), nI_clamp (n := s) (by omega)] at e
    exact ⟨_, α, by rw [e, h7], rfl, h8⟩
  · have h9 := hI.1
    have key : inr p0 0 (nI S.1 - 1) → inr p1 0 19 → ¬ S.2.2.2.2 7 p0.toNatClampNeg p1.toNatClampNeg = -1 → ∃ wv sv, wv < S.1 ∧ sv ≤ 19 ∧ p0 = nI wv ∧ p1 = nI sv ∧ ¬ S.2.2.2.2 7 wv sv = -1 := fun a b c => by
      obtain ⟨wv, w1, rfl⟩ := inr_w (by omega) a
      obtain ⟨sv, s1, rfl⟩ := inr_of (n := 19) rfl b
      rw [nI_clamp (n := wv) (by omega), nI_clamp (n := sv) (by omega)] at c
      exact ⟨wv, sv, w1, s1, rfl, rfl, c⟩
    rcases q with q | q
    · exact ⟨Or.inl q.1, if_neg (fun z => q.2 (key z.1 z.2.1 z.2.2.1))⟩
    · exact ⟨Or.inr (Or.inl q.1), if_neg (fun z => q.2.2 z.2.2.2)⟩
theorem x_order (hfl : l.stackTraces = false) (p0 p1 p2 p3 : Int32) (hI : IS S) (hR : RS y S α f) : vx_Met l yX8_order wsX8_order ({ frames := 7, cells := 5, slots := 30, locals := 110 } : Room) (cPc D A y sa f [.ref (α 0 0 0), .int p0, .int p1, .int p2, .int p3]) (cQi D A (xPo y α (orderF p0 p1 p2 p3 S))) (cX D A f (fun E => (E = nIOB ∨ E = nIAE ∨ E = nISE) ∧ orderF p0 p1 p2 p3 S = none)) 5 30 A := by
  refine vx_post (c_X8_order l D A y sa f hfl α S.2.2.2.2 S.1 S.2.1 S.2.2.1 S.2.2.2.1 p0 p1 p2 p3 hI hR) (fun r f1 hq => ?_) (fun E q => ?_)
  · obtain ⟨w, α2, h1, rfl, h2, h3, h4, h5, rfl, h7, h8⟩ := hq
    have h9 := hI.1
    refine ⟨_, α2, if_pos ⟨inr_wI h1 (by omega), h2, h3, h4, h5⟩, h7, ?_⟩
    rw [nI_clamp (n := w) (by omega)]
    exact h8
  · rcases q with q | q | q
    · exact ⟨Or.inl q.1, if_neg (fun z => q.2 z.1)⟩
    · exact ⟨Or.inr (Or.inl q.1), if_neg (fun z => q.2.2 ⟨z.2.1, z.2.2.1, z.2.2.2.1⟩)⟩
    · exact ⟨Or.inr (Or.inr q.1), if_neg (fun z => by have := q.2.2.2; omega)⟩
theorem x_setFloor (hfl : l.stackTraces = false) (p0 : Int32) (hI : IS S) (hR : RS y S α f) : vx_Met l yX8_setFloor wsX8_setFloor ({ frames := 7, cells := 1, slots := 6, locals := 110 } : Room) (cPc D A y sa f [.ref (α 0 0 0), .int p0]) (cQi D A (xPo y α (floorF p0 S))) (cX D A f (fun E => (E = nIOB ∨ E = nIAE ∨ E = nISE) ∧ floorF p0 S = none)) 1 6 A := by
  refine vx_post (c_X8_setFloor l D A y sa f hfl α S.2.2.2.2 S.1 S.2.1 S.2.2.1 S.2.2.2.1 p0 hI hR) (fun r f1 hq => ?_) (fun E q => ?_)
  · obtain ⟨h1, rfl, h3⟩ := hq
    exact ⟨_, α, if_pos h1, rfl, h3⟩
  · exact ⟨Or.inr (Or.inl q.1), if_neg q.2⟩
theorem x_fill (hfl : l.stackTraces = false) (p0 p1 : Int32) (hI : IS S) (hR : RS y S α f) : vx_Met l yX8_fill wsX8_fill ({ frames := 7, cells := 3, slots := 18, locals := 110 } : Room) (cPc D A y sa f [.ref (α 0 0 0), .int p0, .int p1]) (cQi D A (xPo y α (fillF p0 p1 S))) (cX D A f (fun E => (E = nIOB ∨ E = nIAE ∨ E = nISE) ∧ fillF p0 p1 S = none)) 3 18 A := by
  refine vx_post (c_X8_fill l D A y sa f hfl α S.2.2.2.2 S.1 S.2.1 S.2.2.1 S.2.2.2.1 p0 p1 hI hR) (fun r f1 hq => ?_) (fun E q => ?_)
  · obtain ⟨ev, α2, h1, rfl, h2, h3, rfl, h7, h8⟩ := hq
    refine ⟨_, α2, if_pos ⟨inr_nI (n := 2) (by omega) (by decide), h2, h3⟩, h7, ?_⟩
    rw [nI_clamp (n := ev) (by omega)]
    exact h8
  · rcases q with q | q | q
    · exact ⟨Or.inl q.1, if_neg (fun z => q.2 z.1)⟩
    · exact ⟨Or.inr (Or.inl q.1), if_neg (fun z => q.2.2 z.2.1)⟩
    · exact ⟨Or.inr (Or.inr q.1), if_neg (fun z => by have := q.2.2.2; omega)⟩
theorem x_bounce (hfl : l.stackTraces = false) (p0 : Int32) (hI : IS S) (hR : RS y S α f) : vx_Met l yX8_bounce wsX8_bounce ({ frames := 6, cells := 1, slots := 6, locals := 88 } : Room) (cPc D A y sa f [.ref (α 0 0 0), .int p0]) (cQi D A (xPo y α (bncF p0 S))) (cX D A f (fun E => (E = nIOB ∨ E = nIAE ∨ E = nISE) ∧ bncF p0 S = none)) 1 6 A := by
  refine vx_post (c_X8_bounce l D A y sa f hfl α S.2.2.2.2 S.1 S.2.1 S.2.2.1 S.2.2.2.1 p0 hI hR) (fun r f1 hq => ?_) (fun E q => ?_)
  · obtain ⟨j, ev, h1, h2, rfl, h3, h4, h7, h8⟩ := hq
    have h9 := hI.2.2.1
    have e : bncF (nI j) S = _ := if_pos ⟨inr_wI h1 (by omega), by rw [nI_clamp (n := j) (by omega)]; exact h4⟩
    rw [nI_clamp (n := j) (by omega), h3, nI_clamp (n := ev) (by omega)] at e
    have e2 : bnK S.2.2.2.2 j ev 1 ev 1 = r := by rw [h7]; unfold bnK; rw [upF_s, va_up_s]
    rw [e2] at e
    exact ⟨_, α, e, rfl, h8⟩
  · have h9 := hI.2.2.1
    rcases q with q | ⟨q, t, h1, rfl, h2⟩
    · exact ⟨Or.inl q.1, if_neg (fun z => q.2 z.1)⟩
    · exact ⟨Or.inr (Or.inr q), if_neg (fun z => h2 (by have := z.2; rwa [nI_clamp (n := t) (by omega)] at this))⟩
theorem x_close (hfl : l.stackTraces = false) (hN : nS S) (hI : IS S) (hR : RS y S α f) : vx_Met l yX8_close wsX8_close ({ frames := 6, cells := 8, slots := 32, locals := 123 } : Room) (cPc D A y sa f [.ref (α 0 0 0)]) (cQi D A (xPo y α (closeF S))) (cX D A f (fun E => (E = nIOB ∨ E = nIAE ∨ E = nISE) ∧ closeF S = none)) 8 32 A := by
  refine vx_post (c_X8_close l D A y sa f hfl α S.2.2.2.2 S.1 S.2.1 S.2.2.1 S.2.2.2.1 hN hI hR) (fun r f1 hq => ?_) (fun E q => ?_)
  · obtain ⟨h1, rfl, α2, h3, h4⟩ := hq
    exact ⟨_, α2, if_pos h1, h3, h4⟩
  · exact ⟨Or.inr (Or.inr q.1), if_neg (by have := q.2; omega)⟩
theorem x_come (hfl : l.stackTraces = false) (p0 p1 p2 p3 p4 : Int32) (hI : IS S) (hR : RS y S α f) : vx_Met l yX8_come wsX8_come ({ frames := 8, cells := 6, slots := 33, locals := 131 } : Room) (cPc D A y sa f [.ref (α 0 0 0), .int p0, .int p1, .int p2, .int p3, .int p4]) (cQi D A (xPo y α (comeF p0 p1 p2 p3 p4 S))) (cX D A f (fun E => (E = nIOB ∨ E = nIAE) ∧ comeF p0 p1 p2 p3 p4 S = none)) 6 33 A := by
  refine vx_post (c_X8_come l D A y sa f hfl α S.2.2.2.2 S.1 S.2.1 S.2.2.1 S.2.2.2.1 p0 p1 p2 p3 p4 hI hR) (fun r f1 hq => ?_) (fun E q => ?_)
  · obtain ⟨w, s, kv, h1, h2, h3, rfl, rfl, rfl, h4, h5, hq⟩ := hq
    have h9 := hI.1
    have e : comeF (nI w) (nI s) (nI kv) p3 p4 S = _ := if_pos ⟨inr_wI h1 (by omega), inr_nI (n := 19) (by omega) (by decide), inr_nI (n := 30) (by omega) (by decide), h4, h5⟩
    rw [nI_clamp (n := w) (by omega), nI_clamp (n := s) (by omega), nI_clamp (n := kv) (by omega)] at e
    rcases hq with ⟨q1, rfl, rfl⟩ | ⟨q1, cn, α2, q2, q3, q4, q5, q6⟩
    · exact ⟨S, α, by rw [e, if_neg q1], rfl, hR⟩
    · have ec : cnF S.2.2.2.2 w s kv = nI (cnR (va_up (S.2.2.2.2 7 w) s (nI kv)) (20 - cn) cn) := by unfold cnF; rw [q3, nI_clamp (n := cn) (by omega)]
      exact ⟨_, α2, by rw [e, if_pos q1, q4, ec], q5, q6⟩
  · rcases q with q | q
    · exact ⟨Or.inl q.1, if_neg (fun z => q.2 z.1)⟩
    · exact ⟨Or.inr q.1, if_neg (fun z => q.2.2 z.2)⟩
end XC
