section RG
variable {y : Nat → ClassId} {nw no nt wk : Nat} {κ : cS} {α : Nat → Nat → Nat → Nat} {f : fw_F}
/-- cells come, others change: all by a list of roles -/
theorem Rc.grow {nw2 no2 nt2 wk2 : Nat} {κ2 : cS} {α2 : Nat → Nat → Nat → Nat} {f2 : fw_F} (h : Rc y nw no nt wk κ α f) (up : Nat → Nat → Nat → Option va_E)
    (hc : ∀ k i j, cellC y nw2 no2 nt2 wk2 κ2 α2 k i j = match up k i j with | some e => some e | none => cellC y nw no nt wk κ α k i j)
    (ha : ∀ k i j, cellC y nw no nt wk κ α k i j ≠ none → α2 k i j = α k i j)
    (hf1 : ∀ k i j e, up k i j = some e → f2 (α2 k i j) = some e)
    (hf2 : ∀ k i j, up k i j = none → cellC y nw no nt wk κ α k i j ≠ none → f2 (α k i j) = f (α k i j))
    (hn : ∀ k i j e, up k i j = some e → cellC y nw no nt wk κ α k i j = none → f (α2 k i j) = none)
    (hi : ∀ k i j k' i' j', up k i j ≠ none → cellC y nw no nt wk κ α k i j = none → up k' i' j' ≠ none → cellC y nw no nt wk κ α k' i' j' = none → α2 k i j = α2 k' i' j' → k = k' ∧ i = i' ∧ j = j') : Rc y nw2 no2 nt2 wk2 κ2 α2 f2 := by
  have key : ∀ k i j, cellC y nw2 no2 nt2 wk2 κ2 α2 k i j ≠ none → (cellC y nw no nt wk κ α k i j ≠ none ∧ α2 k i j = α k i j) ∨ (cellC y nw no nt wk κ α k i j = none ∧ up k i j ≠ none ∧ f (α2 k i j) = none) := by
    intro k i j q
    cases hz : cellC y nw no nt wk κ α k i j with
    | some e => exact Or.inl ⟨fun z => (nomatch z), ha k i j (by rw [hz]; exact fun z => nomatch z)⟩
    | none =>
      cases hu : up k i j with
      | some e => exact Or.inr ⟨rfl, fun z => (nomatch z), hn k i j e hu hz⟩
      | none =>
        rw [hc, hu, hz] at q
        exact absurd rfl q
  have hold : ∀ k i j, cellC y nw no nt wk κ α k i j ≠ none → f (α k i j) ≠ none := by
    intro k i j q
    cases hz : cellC y nw no nt wk κ α k i j with
    | some e => rw [h.1 k i j e hz]; exact fun z => nomatch z
    | none => exact absurd hz q
  refine ⟨fun k i j e h2 => ?_, fun k i j k' i' j' h1 h2 h3 => ?_⟩
  · rw [hc] at h2
    cases hu : up k i j with
    | some e2 =>
      rw [hu] at h2
      cases h2
      exact hf1 k i j e hu
    | none =>
      rw [hu] at h2
      have hz : cellC y nw no nt wk κ α k i j = some e := h2
      have hz2 : cellC y nw no nt wk κ α k i j ≠ none := by rw [hz]; exact fun z => nomatch z
      rw [ha k i j hz2, hf2 k i j hu hz2]
      exact h.1 k i j e hz
  · rcases key k i j h1 with ⟨a1, a2⟩ | ⟨a1, a2, a3⟩ <;> rcases key k' i' j' h2 with ⟨b1, b2⟩ | ⟨b1, b2, b3⟩
    · rw [a2, b2] at h3
      exact h.2 k i j k' i' j' a1 b1 h3
    · rw [a2] at h3
      exact absurd (by rw [h3]; exact b3) (hold k i j a1)
    · rw [b2] at h3
      exact absurd (by rw [← h3]; exact a3) (hold k' i' j' b1)
    · exact hi k i j k' i' j' a2 a1 b2 b1 h3
def aUp (α : Nat → Nat → Nat → Nat) (K I J q : Nat) : Nat → Nat → Nat → Nat := fun k i j => if k = K ∧ i = I ∧ j = J then q else α k i j
theorem aUp_s {α : Nat → Nat → Nat → Nat} {K I J q : Nat} : aUp α K I J q K I J = q := if_pos ⟨rfl, rfl, rfl⟩
theorem aUp_n {α : Nat → Nat → Nat → Nat} {K I J q k i j : Nat} (h : ¬ (k = K ∧ i = I ∧ j = J)) : aUp α K I J q k i j = α k i j := if_neg h
theorem aUp_k {α : Nat → Nat → Nat → Nat} {K I J q k i j : Nat} (h : k ≠ K) : aUp α K I J q k i j = α k i j := if_neg (fun z => h z.1)
/-- the rows of a new order -/
def orow (w : Nat) (g a p : Int32) : Nat → Int32 := fun t => match t with
  | 0 => nI w
  | 1 => g
  | 2 => a
  | _ => p
def xCell (y : Nat → ClassId) (nw no nt wk : Nat) (fl : Int32) (α : Nat → Nat → Nat → Nat) : va_E := .inr (8, [.ref (α 0 0 1), .ref (α 0 0 2), .ref (α 0 0 3), .ref (α 0 0 4), .ref (α 0 0 5), .int (nI nw), .int (nI no), .int (nI nt), .int fl, .int (nI wk)])
end RG
section CCD
variable (y : Nat → ClassId) (nw no nt wk : Nat) (κ : cS) (α : Nat → Nat → Nat → Nat)
def cc0 (i j : Nat) : Option va_E := if i = 0 then (match j with
    | 0 => some (xCell y nw no nt wk (κ 0 0 0) α)
    | 1 => some (.inl (y 3, 3, .inr (.inr (.inr (.inr (fun e => if e < 3 then some (α 1 e 0) else none))))))
    | 2 => some (.inl (y 4, 3, .inr (.inr (.inr (.inr (fun e => if e < 3 then some (α 2 e 0) else none))))))
    | 3 => some (.inl (y 8, 8, .inr (.inr (.inr (.inr (fun e => if e < nw then some (α 3 e 0) else none))))))
    | 4 => some (.inl (y 2, 20, .inr (.inr (.inr (.inr (fun e => if e < no then some (α 6 e 0) else none))))))
    | 5 => some (.inl (y 7, 40, .inr (.inr (.inr (.inr (fun e => if e < nt then some (α 7 e 0) else none))))))
    | _ => none) else none
def cc1 (i j : Nat) : Option va_E := if i < 3 ∧ j = 0 then some (.inr (1, [.int (κ 1 i 0), .int (κ 1 i 1)])) else none
def cc2 (i j : Nat) : Option va_E := if i < 3 then (match j with
    | 0 => some (.inr (2, [.ref (α 2 i 1), .ref (α 2 i 4)]))
    | 1 => some (.inr (3, [.ref (α 2 i 2), .ref (α 2 i 3)]))
    | 2 => some (.inl (y 0, 31, .inl (κ 2 (2 * i))))
    | 3 => some (.inl (y 1, 31, .inl (κ 3 (2 * i))))
    | 4 => some (.inr (3, [.ref (α 2 i 5), .ref (α 2 i 6)]))
    | 5 => some (.inl (y 0, 31, .inl (κ 2 (2 * i + 1))))
    | 6 => some (.inl (y 1, 31, .inl (κ 3 (2 * i + 1))))
    | _ => none) else none
def cc3 (i j : Nat) : Option va_E := if i < nw then (match j with
    | 0 => some (wkCell κ α i)
    | 1 => some (.inr (3, [.ref (α 3 i 2), .ref (α 3 i 3)]))
    | 2 => some (.inl (y 0, 31, .inl (κ 5 i)))
    | 3 => some (.inl (y 1, 31, .inl (κ 6 i)))
    | 4 => some (.inl (y 5, 20, .inr (.inr (.inr (.inr (shRow κ α i))))))
    | 5 => some (.inl (y 6, 31, .inr (.inr (.inr (.inr (slRow κ α i))))))
    | _ => none) else none
def cc4 (i j : Nat) : Option va_E := if i < nw ∧ j < 20 ∧ ¬ κ 7 i j = -1 then some (.inr (4, [.int (κ 7 i j), .int (κ 8 i j), .int (κ 9 i j)])) else none
def cc5 (i j : Nat) : Option va_E := if i < nw ∧ j < 31 ∧ κ 10 i j = 1 then some (.inr (5, [.int (κ 11 i j), .int (κ 12 i j), .int (κ 13 i j), .int (κ 14 i j)])) else none
def cc6 (i j : Nat) : Option va_E := if i < no ∧ j = 0 then some (.inr (0, [.ref (α 3 (κ 15 i 0).toNatClampNeg 0), .int (κ 15 i 1), .int (κ 15 i 2), .int (κ 15 i 3)])) else none
def cc7 (i j : Nat) : Option va_E := if i < nt ∧ j = 0 then some (.inr (6, [.ref (α 1 (κ 16 i 0).toNatClampNeg 0), .int (κ 16 i 1), .int (κ 16 i 2)])) else none
end CCD
def noneE : Option va_E := none
section CCE
variable {y : Nat → ClassId} {nw no nt wk nw2 no2 nt2 wk2 : Nat} {κ κ2 : cS} {α α2 : Nat → Nat → Nat → Nat} {i j k : Nat}
theorem ce0 : cellC y nw no nt wk κ α 0 i j = cc0 y nw no nt wk κ α i j := rfl
theorem ce1 : cellC y nw no nt wk κ α 1 i j = cc1 κ i j := rfl
theorem ce2 : cellC y nw no nt wk κ α 2 i j = cc2 y κ α i j := rfl
theorem ce3 : cellC y nw no nt wk κ α 3 i j = cc3 y nw κ α i j := rfl
theorem ce4 : cellC y nw no nt wk κ α 4 i j = cc4 nw κ i j := rfl
theorem ce5 : cellC y nw no nt wk κ α 5 i j = cc5 nw κ i j := rfl
theorem ce6 : cellC y nw no nt wk κ α 6 i j = cc6 no κ α i j := rfl
theorem ce7 : cellC y nw no nt wk κ α 7 i j = cc7 nt κ α i j := rfl
theorem ce8 : cellC y nw no nt wk κ α (k + 8) i j = noneE := rfl
theorem cg1 (h : κ2 1 = κ 1) : cc1 κ2 i j = cc1 κ i j := by unfold cc1; rw [h]
theorem cg2 (h2 : κ2 2 = κ 2) (h3 : κ2 3 = κ 3) (ha : ∀ i j, α2 2 i j = α 2 i j) : cc2 y κ2 α2 i j = cc2 y κ α i j := by unfold cc2; simp only [h2, h3, ha]
theorem cg3 (hn : i < nw2 ↔ i < nw) (h4 : κ2 4 i = κ 4 i) (h5 : κ2 5 i = κ 5 i) (h6 : κ2 6 i = κ 6 i) (h7 : shRow κ2 α2 i = shRow κ α i) (h8 : slRow κ2 α2 i = slRow κ α i) (ha : ∀ j, α2 3 i j = α 3 i j) (hb : ∀ n, α2 1 n 0 = α 1 n 0) : cc3 y nw2 κ2 α2 i j = cc3 y nw κ α i j := by unfold cc3; simp only [hn, wkCell, h4, h5, h6, h7, h8, ha, hb]
theorem cg4 (hn : i < nw2 ↔ i < nw) (h7 : κ2 7 i j = κ 7 i j) (h8 : κ2 8 i j = κ 8 i j) (h9 : κ2 9 i j = κ 9 i j) : cc4 nw2 κ2 i j = cc4 nw κ i j := by unfold cc4; simp only [hn, h7, h8, h9]
theorem cg5 (hn : i < nw2 ↔ i < nw) (h10 : κ2 10 i j = κ 10 i j) (h11 : κ2 11 i j = κ 11 i j) (h12 : κ2 12 i j = κ 12 i j) (h13 : κ2 13 i j = κ 13 i j) (h14 : κ2 14 i j = κ 14 i j) : cc5 nw2 κ2 i j = cc5 nw κ i j := by unfold cc5; simp only [hn, h10, h11, h12, h13, h14]
theorem cg6 (hn : i < no2 ↔ i < no) (h : κ2 15 i = κ 15 i) (ha : ∀ n, α2 3 n 0 = α 3 n 0) : cc6 no2 κ2 α2 i j = cc6 no κ α i j := by unfold cc6; simp only [hn, h, ha]
theorem cg6a (hn : i < no) (h : κ 15 i 0 = κ2 15 i 0) : True := trivial
theorem cg7 (hn : i < nt2 ↔ i < nt) (h : κ2 16 i = κ 16 i) (ha : ∀ n, α2 1 n 0 = α 1 n 0) : cc7 nt2 κ2 α2 i j = cc7 nt κ α i j := by unfold cc7; simp only [hn, h, ha]
theorem sh_cg (h : κ2 7 i = κ 7 i) (ha : ∀ k, α2 4 i k = α 4 i k) : shRow κ2 α2 i = shRow κ α i := by unfold shRow; simp only [h, ha]
theorem sl_cg (h : κ2 10 i = κ 10 i) (ha : ∀ k, α2 5 i k = α 5 i k) : slRow κ2 α2 i = slRow κ α i := by unfold slRow; simp only [h, ha]
theorem row_up {g g2 : Nat → Nat} {n q : Nat} (h : ∀ e, e < n → g2 e = g e) (hq : g2 n = q) : (fun e => if e < n + 1 then some (g2 e) else none) = va_up (fun e => if e < n then some (g e) else none) n (some q) := by
  funext e
  unfold va_up
  by_cases z : e = n
  · rw [if_pos z, if_pos (show e < n + 1 by omega), z, hq]
  · rw [if_neg z]
    show (if e < n + 1 then some (g2 e) else none) = (if e < n then some (g e) else none)
    by_cases z2 : e < n
    · rw [if_pos z2, if_pos (show e < n + 1 by omega), h e z2]
    · rw [if_neg z2, if_neg (show ¬ e < n + 1 by omega)]
end CCE
section RG1
variable {y : Nat → ClassId} {nw no nt wk : Nat} {κ : cS} {α : Nat → Nat → Nat → Nat} {f : fw_F}
/-- one cell comes, two others change -/
theorem Rc.grow1 {nw2 no2 nt2 wk2 : Nat} {κ2 : cS} (h : Rc y nw no nt wk κ α f) {K I J q k1 i1 j1 k2 i2 j2 : Nat} {e0 e1 e2 : va_E} (hq : f q = none) (hd : cellC y nw no nt wk κ α K I J = none) (h1 : cellC y nw no nt wk κ α k1 i1 j1 ≠ none) (h2 : cellC y nw no nt wk κ α k2 i2 j2 ≠ none) (h12 : ¬ (k1 = k2 ∧ i1 = i2 ∧ j1 = j2))
    (hc : ∀ k i j, cellC y nw2 no2 nt2 wk2 κ2 (aUp α K I J q) k i j = if k = K ∧ i = I ∧ j = J then some e0 else if k = k1 ∧ i = i1 ∧ j = j1 then some e1 else if k = k2 ∧ i = i2 ∧ j = j2 then some e2 else cellC y nw no nt wk κ α k i j) :
    Rc y nw2 no2 nt2 wk2 κ2 (aUp α K I J q) (fw_up (fw_up (fw_up f q e0) (α k1 i1 j1) e1) (α k2 i2 j2) e2) := by
  have live : ∀ {k i j}, cellC y nw no nt wk κ α k i j ≠ none → ∃ e, f (α k i j) = some e := by
    intro k i j z
    cases hz : cellC y nw no nt wk κ α k i j with
    | none => exact absurd hz z
    | some e => exact ⟨e, h.1 k i j e hz⟩
  have nq : ∀ {k i j}, cellC y nw no nt wk κ α k i j ≠ none → α k i j ≠ q := by
    intro k i j z
    obtain ⟨e, he⟩ := live z
    exact fw_ne he hq
  have nd : ∀ {k i j}, cellC y nw no nt wk κ α k i j ≠ none → ¬ (k = K ∧ i = I ∧ j = J) := by
    intro k i j z1 z2
    obtain ⟨rfl, rfl, rfl⟩ := z2
    exact z1 hd
  refine h.grow (fun k i j => if k = K ∧ i = I ∧ j = J then some e0 else if k = k1 ∧ i = i1 ∧ j = j1 then some e1 else if k = k2 ∧ i = i2 ∧ j = j2 then some e2 else none) ?_ ?_ ?_ ?_ ?_ ?_
  · intro k i j
    rw [hc]
    by_cases z0 : k = K ∧ i = I ∧ j = J
    · rw [if_pos z0, if_pos z0]
    · rw [if_neg z0, if_neg z0]
      by_cases z1 : k = k1 ∧ i = i1 ∧ j = j1
      · rw [if_pos z1, if_pos z1]
      · rw [if_neg z1, if_neg z1]
        by_cases z2 : k = k2 ∧ i = i2 ∧ j = j2
        · rw [if_pos z2, if_pos z2]
        · rw [if_neg z2, if_neg z2]
  · intro k i j z
    exact aUp_n (nd z)
  · intro k i j e z
    by_cases z0 : k = K ∧ i = I ∧ j = J
    · rw [if_pos z0] at z
      obtain ⟨rfl, rfl, rfl⟩ := z0
      cases z
      rw [aUp_s, fw_up_n (Ne.symm (nq h2)), fw_up_n (Ne.symm (nq h1)), fw_up_s]
    · rw [if_neg z0] at z
      by_cases z1 : k = k1 ∧ i = i1 ∧ j = j1
      · rw [if_pos z1] at z
        obtain ⟨rfl, rfl, rfl⟩ := z1
        cases z
        rw [aUp_n (nd h1), fw_up_n (fun t => h12 (h.2 _ _ _ _ _ _ h1 h2 t)), fw_up_s]
      · rw [if_neg z1] at z
        by_cases z2 : k = k2 ∧ i = i2 ∧ j = j2
        · rw [if_pos z2] at z
          obtain ⟨rfl, rfl, rfl⟩ := z2
          cases z
          rw [aUp_n (nd h2), fw_up_s]
        · rw [if_neg z2] at z
          cases z
  · intro k i j z hl
    by_cases z0 : k = K ∧ i = I ∧ j = J
    · exact absurd z0 (nd hl)
    · rw [if_neg z0] at z
      by_cases z1 : k = k1 ∧ i = i1 ∧ j = j1
      · rw [if_pos z1] at z
        cases z
      · rw [if_neg z1] at z
        by_cases z2 : k = k2 ∧ i = i2 ∧ j = j2
        · rw [if_pos z2] at z
          cases z
        · rw [fw_up_n (fun t => z2 (h.2 _ _ _ _ _ _ hl h2 t)), fw_up_n (fun t => z1 (h.2 _ _ _ _ _ _ hl h1 t)), fw_up_n (nq hl)]
  · intro k i j e z hl
    by_cases z0 : k = K ∧ i = I ∧ j = J
    · obtain ⟨rfl, rfl, rfl⟩ := z0
      rw [aUp_s]
      exact hq
    · rw [if_neg z0] at z
      by_cases z1 : k = k1 ∧ i = i1 ∧ j = j1
      · obtain ⟨rfl, rfl, rfl⟩ := z1
        exact absurd hl h1
      · rw [if_neg z1] at z
        by_cases z2 : k = k2 ∧ i = i2 ∧ j = j2
        · obtain ⟨rfl, rfl, rfl⟩ := z2
          exact absurd hl h2
        · rw [if_neg z2] at z
          cases z
  · intro k i j k' i' j' a1 a2 b1 b2 _
    have new : ∀ k i j, (if k = K ∧ i = I ∧ j = J then some e0 else if k = k1 ∧ i = i1 ∧ j = j1 then some e1 else if k = k2 ∧ i = i2 ∧ j = j2 then some e2 else (none : Option va_E)) ≠ none → cellC y nw no nt wk κ α k i j = none → k = K ∧ i = I ∧ j = J := by
      intro k i j c1 c2
      by_cases z0 : k = K ∧ i = I ∧ j = J
      · exact z0
      · rw [if_neg z0] at c1
        by_cases z1 : k = k1 ∧ i = i1 ∧ j = j1
        · obtain ⟨rfl, rfl, rfl⟩ := z1
          exact absurd c2 h1
        · rw [if_neg z1] at c1
          by_cases z2 : k = k2 ∧ i = i2 ∧ j = j2
          · obtain ⟨rfl, rfl, rfl⟩ := z2
            exact absurd c2 h2
          · rw [if_neg z2] at c1
            exact absurd rfl c1
    obtain ⟨r1, r2, r3⟩ := new k i j a1 a2
    obtain ⟨t1, t2, t3⟩ := new k' i' j' b1 b2
    exact ⟨r1.trans t1.symm, r2.trans t2.symm, r3.trans t3.symm⟩
end RG1
