/-! WHAT THE LAW ASKS OF A CLOSING AND OF A BOUNCE; calls of one of two objects -/
def dS (v : Int32) (h : Nat → Int32) : Nat → Int32
  | 0 => v
  | n + 1 => dS v h n - h n
theorem dS_gS {v : Int32} {h : Nat → Int32} : ∀ n, dS v h n = v - gS h n
  | 0 => by show v = v - 0; rw [Int32.sub_zero]
  | n + 1 => by
    show dS v h n - h n = v - (gS h n + h n)
    rw [dS_gS n, Int32.sub_sub]
def ptS (S : pS) : Int32 := S.2.2.2.2 1 0 0 + S.2.2.2.2 1 1 0 + S.2.2.2.2 1 2 0
def nF (S2 : pS) (wk : Nat) : Nat → Int32 := fun w => if (0 : Int32) < spC S2.2.2.2.2 w wk 0 then 1 else 0
def qF (S2 : pS) (wk : Nat) : Nat → Int32 := fun w => spC S2.2.2.2.2 w wk 0 - spC S2.2.2.2.2 w wk 1
def cOK (S : pS) : Prop := (∀ k, k < S.2.1 → ¬ leftF k S < 0) ∧ ((S.2.2.2.1 = 31 ∧ closeF S = none) ∨ ∃ rr S2, closeF S = some (rr, S2) ∧ S.2.2.2.1 < 31 ∧ S2.1 = S.1 ∧ S2.2.1 = S.2.1 ∧ S2.2.2.2.1 = S.2.2.2.1 + 1 ∧ IS S2 ∧ ¬ rr = -900000001 ∧ (∀ k, k < S.2.1 → ¬ leftF k S2 < 0) ∧ (∀ w, w < S.1 → ¬ ackF w S2 < 0) ∧ gS (nF S2 S.2.2.2.1) S.1 = rr ∧ dS (dS (gS (fun k => leftF k S) S.2.1) (fun w => spC S2.2.2.2.2 w S.2.2.2.1 2) S.1) (fun k => leftF k S2) S.2.1 = 0 ∧ dS (ptS S) (qF S2 S.2.2.2.1) S.1 = ptS S2)
def bOK (S : pS) (e : Nat) (am : Int32) : Prop := fillF (nI e) am S = none ∨ ∃ S1 r2 S2, fillF (nI e) am S = some (nI S.2.2.1, S1) ∧ bncF (nI S.2.2.1) S1 = some (r2, S2) ∧ bncF (nI S.2.2.1) S2 = none ∧ S.2.2.1 < 40 ∧ IS S1 ∧ IS S2 ∧ nS S1 ∧ nS S2 ∧
  S1.2.2.2.2 1 e 0 - S1.2.2.2.2 1 e 1 = S.2.2.2.2 1 e 0 - S.2.2.2.2 1 e 1 + am ∧ (¬ am < S.2.2.2.2 1 e 1 → S1.2.2.2.2 1 e 1 = 0) ∧ (am < S.2.2.2.2 1 e 1 → S1.2.2.2.2 1 e 0 = S.2.2.2.2 1 e 0) ∧ r2 = S2.2.2.2.2 1 e 1 ∧ S2.2.2.2.2 1 e 0 - r2 = S.2.2.2.2 1 e 0 - S.2.2.2.2 1 e 1
theorem doesF_0 {a b c d : Int32} {S : pS} : doesF 0 a b c d S = addF a S := by rw [doesF, if_pos rfl]
theorem doesF_6 {a b c d : Int32} {S : pS} : doesF 6 a b c d S = fillF a b S := by rw [doesF, if_neg (by decide), if_neg (by decide), if_neg (by decide), if_neg (by decide), if_neg (by decide), if_neg (by decide), if_pos rfl]
theorem doesF_7 {a b c d : Int32} {S : pS} : doesF 7 a b c d S = bncF a S := by rw [doesF, if_neg (by decide), if_neg (by decide), if_neg (by decide), if_neg (by decide), if_neg (by decide), if_neg (by decide), if_neg (by decide), if_pos rfl]
theorem doesF_8 {a b c d : Int32} {S : pS} : doesF 8 a b c d S = closeF S := by rw [doesF, if_neg (by decide), if_neg (by decide), if_neg (by decide), if_neg (by decide), if_neg (by decide), if_neg (by decide), if_neg (by decide), if_neg (by decide)]
def dL (y : Nat → ClassId) (f g : fw_F) (α : Nat → Nat → Nat → Nat) (o : Option (Int32 × pS)) : Int32 → fw_F → Prop := fun r h1 => ∃ f1, h1 = fw_or f1 g ∧ fw_dis f1 g ∧ dPo y f α o r f1
def dR (y : Nat → ClassId) (f g : fw_F) (β : Nat → Nat → Nat → Nat) (o : Option (Int32 × pS)) : Int32 → fw_F → Prop := fun r h1 => ∃ g1, h1 = fw_or f g1 ∧ fw_dis f g1 ∧ dPo y g β o r g1
section DLR
variable {l : Launch} {D : va_G} {A : Nat → Prop} {y : Nat → ClassId} {sa : Nat → Nat} {f g : fw_F} {yy : MethodName} {ws : List Cond} {rm : Room} {av : List Value} {mc ms : Nat} {o : Option (Int32 × pS)} {α β : Nat → Nat → Nat → Nat} {S : pS}
theorem met_L (hd : fw_dis f g) (hM : ∀ A, Met l yy ws rm (cPc D A y sa f av) (cQi D A (dPo y f α o)) mc ms A) : Met l yy ws rm (cPc D A y sa (fw_or f g) av) (cQi D A (dL y f g α o)) mc ms A :=
  met_post (met_frame hd (hM _)) (fun r h1 ⟨f1, hp, hd1, e1⟩ => ⟨f1, e1, hd1, hp⟩)
theorem met_R (hd : fw_dis f g) (hM : ∀ A, Met l yy ws rm (cPc D A y sa g av) (cQi D A (dPo y g β o)) mc ms A) : Met l yy ws rm (cPc D A y sa (fw_or f g) av) (cQi D A (dR y f g β o)) mc ms A := by
  rw [fw_or_c hd]
  exact met_post (met_frame hd.symm (hM _)) (fun r h1 ⟨f1, hp, hd1, e1⟩ => ⟨f1, by rw [e1, fw_or_c hd1], hd1.symm, hp⟩)
theorem dL.some {r rr : Int32} {S2 : pS} {h1 : fw_F} (h : dL y f g α o r h1) (e : o = some (rr, S2)) : r = rr ∧ ∃ f1 α2, h1 = fw_or f1 g ∧ fw_dis f1 g ∧ α2 0 0 0 = α 0 0 0 ∧ RS y S2 α2 f1 := by
  obtain ⟨f1, e1, hd, ⟨q1, _⟩ | ⟨S3, α2, q1, q2, q3⟩⟩ := h
  · rw [q1] at e; cases e
  · rw [q1] at e; cases e
    exact ⟨rfl, f1, α2, e1, hd, q2, q3⟩
theorem dL.none {r : Int32} {h1 : fw_F} (h : dL y f g α o r h1) (e : o = none) : r = -900000001 ∧ h1 = fw_or f g := by
  obtain ⟨f1, e1, hd, ⟨q1, q2, rfl⟩ | ⟨S3, α2, q1, q2, q3⟩⟩ := h
  · exact ⟨q2, e1⟩
  · rw [q1] at e; cases e
theorem dR.some {r rr : Int32} {S2 : pS} {h1 : fw_F} (h : dR y f g β o r h1) (e : o = some (rr, S2)) : r = rr ∧ ∃ g1 β2, h1 = fw_or f g1 ∧ fw_dis f g1 ∧ β2 0 0 0 = β 0 0 0 ∧ RS y S2 β2 g1 := by
  obtain ⟨f1, e1, hd, ⟨q1, _⟩ | ⟨S3, α2, q1, q2, q3⟩⟩ := h
  · rw [q1] at e; cases e
  · rw [q1] at e; cases e
    exact ⟨rfl, f1, α2, e1, hd, q2, q3⟩
theorem dR.none {r : Int32} {h1 : fw_F} (h : dR y f g β o r h1) (e : o = none) : r = -900000001 ∧ h1 = fw_or f g := by
  obtain ⟨f1, e1, hd, ⟨q1, q2, rfl⟩ | ⟨S3, α2, q1, q2, q3⟩⟩ := h
  · exact ⟨q2, e1⟩
  · rw [q1] at e; cases e
end DLR
/-- both objects, of the same numbers, side by side -/
def two (y : Nat → ClassId) (S : pS) (x z : Nat) (h : fw_F) : Prop := ∃ α β f g, α 0 0 0 = x ∧ β 0 0 0 = z ∧ RS y S α f ∧ RS y S β g ∧ fw_dis f g ∧ h = fw_or f g
/-- one call more, or one that threw -/
def stp (o : Option (Int32 × pS)) (S S2 : pS) : Prop := (o = none ∧ S2 = S) ∨ ∃ r, o = some (r, S2)
