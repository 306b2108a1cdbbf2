/-! CONTRACTS OF THE CLASS FOR THE LAW: nothing thrown, and beside a world that is left -/
section MM
variable {l : Launch} {D : va_G} {A : Nat → Prop} {y : Nat → ClassId} {sa : Nat → Nat} {f g : fw_F} {yy : MethodName} {ws : List Cond} {rm : Room} {av : List Value} {mc ms : Nat}
theorem met_of_vx {Pc : Array Value → State → Prop} {Qc : Array Value → State → Outcome → State → Prop} {XC : String → State → State → Prop} {free : Addr → Prop} (h : vx_Met l yy ws rm Pc Qc XC mc ms free) (hn : ∀ E st t, ¬ XC E st t) : Met l yy ws rm Pc Qc mc ms free := by
  refine MetFree.mono h (fun _ _ q => q) (fun _ _ _ _ _ q => q) (fun a s o t _ hq => ?_)
  rcases hq with hq | ⟨q, _, E, ce, L, hX, _⟩
  · exact hq
  · exact absurd hX (hn E _ _)
theorem met_cX {thr : String → Prop} {Qc : Array Value → State → Outcome → State → Prop} (h : vx_Met l yy ws rm (cPc D A y sa f av) Qc (cX D A f thr) mc ms A) (hn : ∀ E, ¬ thr E) : Met l yy ws rm (cPc D A y sa f av) Qc mc ms A :=
  met_of_vx h (fun E _ _ ⟨_, _, hB, _⟩ => hn E hB.1)
theorem met_post {post post' : Int32 → fw_F → Prop} (h : Met l yy ws rm (cPc D A y sa f av) (cQi D A post) mc ms A) (hp : ∀ r f1, post r f1 → post' r f1) : Met l yy ws rm (cPc D A y sa f av) (cQi D A post') mc ms A := by
  refine MetFree.mono h (fun _ _ q => q) (fun _ _ _ _ _ q => q) (fun a s o t _ hq => ?_)
  obtain ⟨⟨⟨r, u, e1, e2, e3⟩, hF⟩, hL⟩ := hq
  exact ⟨⟨⟨r, u, e1, hp r u e2, e3⟩, hF⟩, hL⟩
/-- the world that is left stands beside -/
theorem met_frame {post : Int32 → fw_F → Prop} (hd : fw_dis f g) (h : Met l yy ws rm (cPc D (fw_A A g) y sa f av) (cQi D (fw_A A g) post) mc ms (fw_A A g)) : Met l yy ws rm (cPc D A y sa (fw_or f g) av) (cQi D A (fun r h1 => ∃ f1, post r f1 ∧ fw_dis f1 g ∧ h1 = fw_or f1 g)) mc ms A := by
  refine MetFree.mono h (fun a s hp => ⟨hp.1, hp.2.1.left hd, hp.2.2.apart (hp.2.1.right hd)⟩) (fun _ _ _ _ _ q => q) (fun a s o t hp hq => ?_)
  obtain ⟨⟨⟨r, u, e1, e2, e3⟩, hF⟩, L, hE, hL⟩ := hq
  have hg := fw_left_stands (hp.2.1.right hd) hF.1 hF.2
  have hj := e3.join hg
  exact ⟨⟨⟨r, fw_or u g, e1, ⟨u, e2, hj.2, rfl⟩, hj.1⟩, hF.1, fun q h1 h2 => hF.2 q h1 (fun z => h2 z.1)⟩, L, hE, fun q hq => (hL q hq).1⟩
/-- a method that only looks, in a wider world -/
theorem met_look {P : Int32 → Prop} {h : fw_F} (hd : fw_dis f g) (e : h = fw_or f g) (hM : ∀ A, Met l yy ws rm (cPc D A y sa f av) (cQi D A (fun r f1 => P r ∧ f1 = f)) mc ms A) : Met l yy ws rm (cPc D A y sa h av) (cQi D A (fun r h1 => P r ∧ h1 = h)) mc ms A := by
  subst e
  exact met_post (met_frame hd (hM _)) (fun r h1 ⟨f1, hp, _, e1⟩ => ⟨hp.1, by rw [e1, hp.2]⟩)
end MM
/-- the class's numbers, all -/
abbrev pS : Type := Nat × Nat × Nat × Nat × cS
/-- an object of the class within a world -/
def RH (y : Nat → ClassId) (S : pS) (α : Nat → Nat → Nat → Nat) (h : fw_F) : Prop := ∃ f g, Rc y S.1 S.2.1 S.2.2.1 S.2.2.2.1 S.2.2.2.2 α f ∧ fw_dis f g ∧ h = fw_or f g
abbrev IS (S : pS) : Prop := Ic S.1 S.2.1 S.2.2.1 S.2.2.2.1 S.2.2.2.2
abbrev RS (y : Nat → ClassId) (S : pS) (α : Nat → Nat → Nat → Nat) (f : fw_F) : Prop := Rc y S.1 S.2.1 S.2.2.1 S.2.2.2.1 S.2.2.2.2 α f
theorem fw_dis_0 {f : fw_F} : fw_dis f (fun _ => none) := fun _ _ => rfl
theorem fw_or_0 {f : fw_F} : f = fw_or f (fun _ => none) := by
  funext q
  cases hf : f q with
  | none => rw [fw_or_n hf]
  | some e => rw [fw_or_l hf]
theorem RH.one {y : Nat → ClassId} {S : pS} {α : Nat → Nat → Nat → Nat} {f : fw_F} (h : RS y S α f) : RH y S α f := ⟨f, _, h, fw_dis_0, fw_or_0⟩
theorem RH.l {y : Nat → ClassId} {S : pS} {α : Nat → Nat → Nat → Nat} {f g : fw_F} (h : RS y S α f) (hd : fw_dis f g) : RH y S α (fw_or f g) := ⟨f, g, h, hd, rfl⟩
theorem RH.r {y : Nat → ClassId} {S : pS} {α : Nat → Nat → Nat → Nat} {f g : fw_F} (h : RS y S α g) (hd : fw_dis f g) : RH y S α (fw_or f g) := ⟨g, f, h, hd.symm, fw_or_c hd⟩
theorem RH.x {y : Nat → ClassId} {S : pS} {α : Nat → Nat → Nat → Nat} {h : fw_F} (hH : RH y S α h) : h (α 0 0 0) = some (.inr (8, [.ref (α 0 0 1), .ref (α 0 0 2), .ref (α 0 0 3), .ref (α 0 0 4), .ref (α 0 0 5), .int (nI S.1), .int (nI S.2.1), .int (nI S.2.2.1), .int (S.2.2.2.2 0 0 0), .int (nI S.2.2.2.1)])) := by
  obtain ⟨f, g, h1, h2, rfl⟩ := hH
  exact fw_or_l h1.x
section RD
variable {l : Launch} {D : va_G} {A : Nat → Prop} {y : Nat → ClassId} {sa : Nat → Nat} {h : fw_F} {α : Nat → Nat → Nat → Nat} {S : pS}
theorem rd_week (hH : RH y S α h) : Met l yX8_week wsX8_week ({ frames := 0, cells := 0, slots := 0, locals := 0 } : Room) (cPc D A y sa h [.ref (α 0 0 0)]) (cQi D A (fun r h1 => r = nI S.2.2.2.1 ∧ h1 = h)) 0 0 A := by
  obtain ⟨f, g, h1, h2, e⟩ := hH
  exact met_look h2 e (fun A => c_X8_week l D A y sa f α S.2.2.2.2 S.1 S.2.1 S.2.2.1 S.2.2.2.1 h1)
theorem rd_pot (hfl : l.stackTraces = false) (hI : IS S) (hH : RH y S α h) {i : Nat} (hi : i < 3) : Met l yX8_pot wsX8_pot ({ frames := 7, cells := 1, slots := 6, locals := 110 } : Room) (cPc D A y sa h [.ref (α 0 0 0), .int (nI i)]) (cQi D A (fun r h1 => r = S.2.2.2.2 1 i 0 ∧ h1 = h)) 1 6 A := by
  obtain ⟨f, g, h1, h2, e⟩ := hH
  refine met_look h2 e (fun A => met_post (met_cX (c_X8_pot l D A y sa f hfl α S.2.2.2.2 S.1 S.2.1 S.2.2.1 S.2.2.2.1 (nI i) hI h1) (fun E q => q.2 (inr_nI (n := 2) (by omega) (by decide)))) (fun r f1 hq => ?_))
  obtain ⟨ev, q1, q2, q3, q4⟩ := hq
  obtain rfl := nI_inj2 q2 (by omega) (by omega)
  exact ⟨q3, q4⟩
theorem rd_shortage (hfl : l.stackTraces = false) (hI : IS S) (hH : RH y S α h) {i : Nat} (hi : i < 3) : Met l yX8_shortage wsX8_shortage ({ frames := 7, cells := 1, slots := 6, locals := 110 } : Room) (cPc D A y sa h [.ref (α 0 0 0), .int (nI i)]) (cQi D A (fun r h1 => r = S.2.2.2.2 1 i 1 ∧ h1 = h)) 1 6 A := by
  obtain ⟨f, g, h1, h2, e⟩ := hH
  refine met_look h2 e (fun A => met_post (met_cX (c_X8_shortage l D A y sa f hfl α S.2.2.2.2 S.1 S.2.1 S.2.2.1 S.2.2.2.1 (nI i) hI h1) (fun E q => q.2 (inr_nI (n := 2) (by omega) (by decide)))) (fun r f1 hq => ?_))
  obtain ⟨ev, q1, q2, q3, q4⟩ := hq
  obtain rfl := nI_inj2 q2 (by omega) (by omega)
  exact ⟨q3, q4⟩
theorem rd_acknowledged (hfl : l.stackTraces = false) (hI : IS S) (hH : RH y S α h) {w : Nat} (hw : w < S.1) : Met l yX8_acknowledged wsX8_acknowledged ({ frames := 7, cells := 1, slots := 6, locals := 110 } : Room) (cPc D A y sa h [.ref (α 0 0 0), .int (nI w)]) (cQi D A (fun r h1 => r = S.2.2.2.2 4 w 1 ∧ h1 = h)) 1 6 A := by
  have h8 := hI.1
  obtain ⟨f, g, h1, h2, e⟩ := hH
  refine met_look h2 e (fun A => met_post (met_cX (c_X8_acknowledged l D A y sa f hfl α S.2.2.2.2 S.1 S.2.1 S.2.2.1 S.2.2.2.1 (nI w) hI h1) (fun E q => q.2 (inr_wI hw (by omega)))) (fun r f1 hq => ?_))
  obtain ⟨ev, q1, q2, q3, q4⟩ := hq
  obtain rfl := nI_inj2 q2 (by omega) (by omega)
  exact ⟨q3, q4⟩
theorem rd_toTakeBack (hfl : l.stackTraces = false) (hI : IS S) (hH : RH y S α h) {w : Nat} (hw : w < S.1) : Met l yX8_toTakeBack wsX8_toTakeBack ({ frames := 7, cells := 1, slots := 6, locals := 110 } : Room) (cPc D A y sa h [.ref (α 0 0 0), .int (nI w)]) (cQi D A (fun r h1 => r = S.2.2.2.2 4 w 3 ∧ h1 = h)) 1 6 A := by
  have h8 := hI.1
  obtain ⟨f, g, h1, h2, e⟩ := hH
  refine met_look h2 e (fun A => met_post (met_cX (c_X8_toTakeBack l D A y sa f hfl α S.2.2.2.2 S.1 S.2.1 S.2.2.1 S.2.2.2.1 (nI w) hI h1) (fun E q => q.2 (inr_wI hw (by omega)))) (fun r f1 hq => ?_))
  obtain ⟨ev, q1, q2, q3, q4⟩ := hq
  obtain rfl := nI_inj2 q2 (by omega) (by omega)
  exact ⟨q3, q4⟩
theorem rd_claim (hfl : l.stackTraces = false) (hI : IS S) (hH : RH y S α h) {w : Nat} (hw : w < S.1) : Met l yX8_claim wsX8_claim ({ frames := 7, cells := 1, slots := 6, locals := 110 } : Room) (cPc D A y sa h [.ref (α 0 0 0), .int (nI w)]) (cQi D A (fun r h1 => r = clC S.2.2.2.2 S.2.2.2.1 w ∧ h1 = h)) 1 6 A := by
  have h8 := hI.1
  obtain ⟨f, g, h1, h2, e⟩ := hH
  refine met_look h2 e (fun A => met_post (met_cX (c_X8_claim l D A y sa f hfl α S.2.2.2.2 S.1 S.2.1 S.2.2.1 S.2.2.2.1 (nI w) hI h1) (fun E q => q.2 (inr_wI hw (by omega)))) (fun r f1 hq => ?_))
  obtain ⟨ev, q1, q2, q3, q4⟩ := hq
  obtain rfl := nI_inj2 q2 (by omega) (by omega)
  exact ⟨q3, q4⟩
theorem rd_claimBySlips (hfl : l.stackTraces = false) (hI : IS S) (hH : RH y S α h) {w : Nat} (hw : w < S.1) : Met l yX8_claimBySlips wsX8_claimBySlips ({ frames := 7, cells := 1, slots := 6, locals := 110 } : Room) (cPc D A y sa h [.ref (α 0 0 0), .int (nI w)]) (cQi D A (fun r h1 => r = ssC S.2.2.2.2 w (duC S.2.2.2.2 w 0 (nI S.2.2.2.1) + S.2.2.2.2 4 w 4) 31 ∧ h1 = h)) 1 6 A := by
  have h8 := hI.1
  obtain ⟨f, g, h1, h2, e⟩ := hH
  refine met_look h2 e (fun A => met_post (met_cX (c_X8_claimBySlips l D A y sa f hfl α S.2.2.2.2 S.1 S.2.1 S.2.2.1 S.2.2.2.1 (nI w) hI h1) (fun E q => q.2 (inr_wI hw (by omega)))) (fun r f1 hq => ?_))
  obtain ⟨ev, q1, q2, q3, q4⟩ := hq
  obtain rfl := nI_inj2 q2 (by omega) (by omega)
  exact ⟨q3, q4⟩
theorem rd_due (hfl : l.stackTraces = false) (hI : IS S) (hH : RH y S α h) {w k : Nat} (hw : w < S.1) (hk : k ≤ 30) : Met l yX8_due wsX8_due ({ frames := 8, cells := 2, slots := 12, locals := 130 } : Room) (cPc D A y sa h [.ref (α 0 0 0), .int (nI w), .int (nI k)]) (cQi D A (fun r h1 => r = duC S.2.2.2.2 w (nI k) (nI k) ∧ h1 = h)) 2 12 A := by
  have h8 := hI.1
  obtain ⟨f, g, h1, h2, e⟩ := hH
  refine met_look h2 e (fun A => met_post (met_cX (c_X8_due l D A y sa f hfl α S.2.2.2.2 S.1 S.2.1 S.2.2.1 S.2.2.2.1 (nI w) (nI k) hI h1) (fun E q => ?_)) (fun r f1 hq => ?_))
  · rcases q with q | q
    · exact q.2 (inr_wI hw (by omega))
    · exact q.2.2 (inr_nI hk (by decide))
  · obtain ⟨ev, q1, q2, q3, q4, q5⟩ := hq
    obtain rfl := nI_inj2 q2 (by omega) (by omega)
    exact ⟨q4, q5⟩
theorem rd_slip (hfl : l.stackTraces = false) (hI : IS S) (hH : RH y S α h) {w k pt : Nat} (hw : w < S.1) (hk : k ≤ 30) (hp : pt ≤ 3) : Met l yX8_slip wsX8_slip ({ frames := 8, cells := 3, slots := 18, locals := 130 } : Room) (cPc D A y sa h [.ref (α 0 0 0), .int (nI w), .int (nI k), .int (nI pt)]) (cQi D A (fun r h1 => r = spC S.2.2.2.2 w k pt ∧ h1 = h)) 3 18 A := by
  have h8 := hI.1
  obtain ⟨f, g, h1, h2, e⟩ := hH
  refine met_look h2 e (fun A => met_post (met_cX (c_X8_slip l D A y sa f hfl α S.2.2.2.2 S.1 S.2.1 S.2.2.1 S.2.2.2.1 (nI w) (nI k) (nI pt) hI h1) (fun E q => ?_)) (fun r f1 hq => ?_))
  · rcases q with q | q
    · exact q.2 (inr_wI hw (by omega))
    · exact q.2.2 ⟨inr_nI hk (by decide), inr_nI hp (by decide)⟩
  · obtain ⟨wv, kv, pv, q1, q2, q3, e1, e2, e3, q4, q5⟩ := hq
    obtain rfl := nI_inj2 e1 (by omega) (by omega)
    obtain rfl := nI_inj2 e2 (by omega) (by omega)
    obtain rfl := nI_inj2 e3 (by omega) (by omega)
    exact ⟨q4, q5⟩
end RD
