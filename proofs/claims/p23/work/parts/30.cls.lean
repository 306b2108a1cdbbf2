/-! THE CLASS'S STATE: κ by kinds; α the addresses of its cells by (kind, i, j) -/
abbrev cS : Type := Nat → Nat → Nat → Int32
def upF (κ : cS) (K I : Nat) (g : Nat → Int32) : cS := fun a b => if a = K ∧ b = I then g else κ a b
theorem upF_s {κ : cS} {K I : Nat} {g : Nat → Int32} : upF κ K I g K I = g := if_pos ⟨rfl, rfl⟩
theorem upF_n {κ : cS} {K I a b : Nat} {g : Nat → Int32} (h : ¬ (a = K ∧ b = I)) : upF κ K I g a b = κ a b := if_neg h
theorem upF_i {κ : cS} {K I a b : Nat} {g : Nat → Int32} (h : b ≠ I) : upF κ K I g a b = κ a b := if_neg (fun z => h z.2)
theorem upF_k {κ : cS} {K I a b : Nat} {g : Nat → Int32} (h : a ≠ K) : upF κ K I g a b = κ a b := if_neg (fun z => h z.1)
def wkCell (κ : cS) (α : Nat → Nat → Nat → Nat) (i : Nat) : va_E := .inr (7, [.ref (α 1 (κ 4 i 0).toNatClampNeg 0), .ref (α 3 i 1), .int (κ 4 i 1), .int (κ 4 i 2), .int (κ 4 i 3), .int (κ 4 i 4), .ref (α 3 i 4), .ref (α 3 i 5)])
def shRow (κ : cS) (α : Nat → Nat → Nat → Nat) (i : Nat) : Nat → Option Nat := fun k => if k < 20 ∧ ¬ κ 7 i k = -1 then some (α 4 i k) else none
def slRow (κ : cS) (α : Nat → Nat → Nat → Nat) (i : Nat) : Nat → Option Nat := fun k => if k < 31 ∧ κ 10 i k = 1 then some (α 5 i k) else none
def cellC (y : Nat → ClassId) (nw no nt wk : Nat) (κ : cS) (α : Nat → Nat → Nat → Nat) (k i j : Nat) : Option va_E :=
  match k with
  | 0 => if i = 0 then (match j with
    | 0 => some (.inr (8, [.ref (α 0 0 1), .ref (α 0 0 2), .ref (α 0 0 3), .ref (α 0 0 4), .ref (α 0 0 5), .int (nI nw), .int (nI no), .int (nI nt), .int (κ 0 0 0), .int (nI wk)]))
    | 1 => some (.inl (y 3, 3, .inr (.inr (.inr (.inr (fun e => if e < 3 then some (α 1 e 0) else none))))))
    | 2 => some (.inl (y 4, 3, .inr (.inr (.inr (.inr (fun e => if e < 3 then some (α 2 e 0) else none))))))
    | 3 => some (.inl (y 8, 8, .inr (.inr (.inr (.inr (fun e => if e < nw then some (α 3 e 0) else none))))))
    | 4 => some (.inl (y 2, 20, .inr (.inr (.inr (.inr (fun e => if e < no then some (α 6 e 0) else none))))))
    | 5 => some (.inl (y 7, 40, .inr (.inr (.inr (.inr (fun e => if e < nt then some (α 7 e 0) else none))))))
    | _ => none) else none
  | 1 => if i < 3 ∧ j = 0 then some (.inr (1, [.int (κ 1 i 0), .int (κ 1 i 1)])) else none
  | 2 => if i < 3 then (match j with
    | 0 => some (.inr (2, [.ref (α 2 i 1), .ref (α 2 i 4)]))
    | 1 => some (.inr (3, [.ref (α 2 i 2), .ref (α 2 i 3)]))
    | 2 => some (.inl (y 0, 31, .inl (κ 2 (2 * i))))
    | 3 => some (.inl (y 1, 31, .inl (κ 3 (2 * i))))
    | 4 => some (.inr (3, [.ref (α 2 i 5), .ref (α 2 i 6)]))
    | 5 => some (.inl (y 0, 31, .inl (κ 2 (2 * i + 1))))
    | 6 => some (.inl (y 1, 31, .inl (κ 3 (2 * i + 1))))
    | _ => none) else none
  | 3 => if i < nw then (match j with
    | 0 => some (wkCell κ α i)
    | 1 => some (.inr (3, [.ref (α 3 i 2), .ref (α 3 i 3)]))
    | 2 => some (.inl (y 0, 31, .inl (κ 5 i)))
    | 3 => some (.inl (y 1, 31, .inl (κ 6 i)))
    | 4 => some (.inl (y 5, 20, .inr (.inr (.inr (.inr (shRow κ α i))))))
    | 5 => some (.inl (y 6, 31, .inr (.inr (.inr (.inr (slRow κ α i))))))
    | _ => none) else none
  | 4 => if i < nw ∧ j < 20 ∧ ¬ κ 7 i j = -1 then some (.inr (4, [.int (κ 7 i j), .int (κ 8 i j), .int (κ 9 i j)])) else none
  | 5 => if i < nw ∧ j < 31 ∧ κ 10 i j = 1 then some (.inr (5, [.int (κ 11 i j), .int (κ 12 i j), .int (κ 13 i j), .int (κ 14 i j)])) else none
  | 6 => if i < no ∧ j = 0 then some (.inr (0, [.ref (α 3 (κ 15 i 0).toNatClampNeg 0), .int (κ 15 i 1), .int (κ 15 i 2), .int (κ 15 i 3)])) else none
  | 7 => if i < nt ∧ j = 0 then some (.inr (6, [.ref (α 1 (κ 16 i 0).toNatClampNeg 0), .int (κ 16 i 1), .int (κ 16 i 2)])) else none
  | _ => none
def Rc (y : Nat → ClassId) (nw no nt wk : Nat) (κ : cS) (α : Nat → Nat → Nat → Nat) (f : fw_F) : Prop :=
  (∀ k i j e, cellC y nw no nt wk κ α k i j = some e → f (α k i j) = some e) ∧ ∀ k i j k' i' j', cellC y nw no nt wk κ α k i j ≠ none → cellC y nw no nt wk κ α k' i' j' ≠ none → α k i j = α k' i' j' → k = k' ∧ i = i' ∧ j = j'
/-- what every call finds of the class's numbers -/
def Ic (nw no nt wk : Nat) (κ : cS) : Prop := nw ≤ 8 ∧ no ≤ 20 ∧ nt ≤ 40 ∧ wk ≤ 31 ∧ (∀ w, w < nw → ∃ e, e < 3 ∧ κ 4 w 0 = nI e) ∧ (∀ w, w < nw → ∃ k, k ≤ 20 ∧ κ 4 w 1 = nI k) ∧ (∀ w, w < nw → ∀ k, k < 20 → κ 7 w k = -1 ∨ ∃ q, q < 31 ∧ κ 7 w k = nI q) ∧ (∀ w, w < nw → ∀ k, k < 31 → ∃ r, r < 3 ∧ κ 5 w k = nI r) ∧ (∀ o, o < no → ∃ w, w < nw ∧ κ 15 o 0 = nI w) ∧ (∀ t, t < nt → ∃ e, e < 3 ∧ κ 16 t 0 = nI e)
section RC
variable {y : Nat → ClassId} {nw no nt wk : Nat} {κ : cS} {α : Nat → Nat → Nat → Nat} {f : fw_F}
theorem Rc.x (h : Rc y nw no nt wk κ α f) : f (α 0 0 0) = some (.inr (8, [.ref (α 0 0 1), .ref (α 0 0 2), .ref (α 0 0 3), .ref (α 0 0 4), .ref (α 0 0 5), .int (nI nw), .int (nI no), .int (nI nt), .int (κ 0 0 0), .int (nI wk)])) := h.1 0 0 0 _ rfl
theorem Rc.x1 (h : Rc y nw no nt wk κ α f) : f (α 0 0 1) = some (.inl (y 3, 3, .inr (.inr (.inr (.inr (fun e => if e < 3 then some (α 1 e 0) else none)))))) := h.1 0 0 1 _ rfl
theorem Rc.x2 (h : Rc y nw no nt wk κ α f) : f (α 0 0 2) = some (.inl (y 4, 3, .inr (.inr (.inr (.inr (fun e => if e < 3 then some (α 2 e 0) else none)))))) := h.1 0 0 2 _ rfl
theorem Rc.x3 (h : Rc y nw no nt wk κ α f) : f (α 0 0 3) = some (.inl (y 8, 8, .inr (.inr (.inr (.inr (fun e => if e < nw then some (α 3 e 0) else none)))))) := h.1 0 0 3 _ rfl
theorem Rc.x4 (h : Rc y nw no nt wk κ α f) : f (α 0 0 4) = some (.inl (y 2, 20, .inr (.inr (.inr (.inr (fun e => if e < no then some (α 6 e 0) else none)))))) := h.1 0 0 4 _ rfl
theorem Rc.x5 (h : Rc y nw no nt wk κ α f) : f (α 0 0 5) = some (.inl (y 7, 40, .inr (.inr (.inr (.inr (fun e => if e < nt then some (α 7 e 0) else none)))))) := h.1 0 0 5 _ rfl
theorem Rc.p (h : Rc y nw no nt wk κ α f) {i : Nat} (hi : i < 3) : f (α 1 i 0) = some (.inr (1, [.int (κ 1 i 0), .int (κ 1 i 1)])) := h.1 1 i 0 _ (if_pos ⟨hi, rfl⟩)
theorem Rc.r0 (h : Rc y nw no nt wk κ α f) {i : Nat} (hi : i < 3) : f (α 2 i 0) = some (.inr (2, [.ref (α 2 i 1), .ref (α 2 i 4)])) := h.1 2 i 0 _ (if_pos hi)
theorem Rc.r1 (h : Rc y nw no nt wk κ α f) {i : Nat} (hi : i < 3) : f (α 2 i 1) = some (.inr (3, [.ref (α 2 i 2), .ref (α 2 i 3)])) := h.1 2 i 1 _ (if_pos hi)
theorem Rc.r2 (h : Rc y nw no nt wk κ α f) {i : Nat} (hi : i < 3) : f (α 2 i 2) = some (.inl (y 0, 31, .inl (κ 2 (2 * i)))) := h.1 2 i 2 _ (if_pos hi)
theorem Rc.r3 (h : Rc y nw no nt wk κ α f) {i : Nat} (hi : i < 3) : f (α 2 i 3) = some (.inl (y 1, 31, .inl (κ 3 (2 * i)))) := h.1 2 i 3 _ (if_pos hi)
theorem Rc.r4 (h : Rc y nw no nt wk κ α f) {i : Nat} (hi : i < 3) : f (α 2 i 4) = some (.inr (3, [.ref (α 2 i 5), .ref (α 2 i 6)])) := h.1 2 i 4 _ (if_pos hi)
theorem Rc.r5 (h : Rc y nw no nt wk κ α f) {i : Nat} (hi : i < 3) : f (α 2 i 5) = some (.inl (y 0, 31, .inl (κ 2 (2 * i + 1)))) := h.1 2 i 5 _ (if_pos hi)
theorem Rc.r6 (h : Rc y nw no nt wk κ α f) {i : Nat} (hi : i < 3) : f (α 2 i 6) = some (.inl (y 1, 31, .inl (κ 3 (2 * i + 1)))) := h.1 2 i 6 _ (if_pos hi)
theorem Rc.w0 (h : Rc y nw no nt wk κ α f) {i : Nat} (hi : i < nw) : f (α 3 i 0) = some (.inr (7, [.ref (α 1 (κ 4 i 0).toNatClampNeg 0), .ref (α 3 i 1), .int (κ 4 i 1), .int (κ 4 i 2), .int (κ 4 i 3), .int (κ 4 i 4), .ref (α 3 i 4), .ref (α 3 i 5)])) := h.1 3 i 0 _ (if_pos hi)
theorem Rc.w1 (h : Rc y nw no nt wk κ α f) {i : Nat} (hi : i < nw) : f (α 3 i 1) = some (.inr (3, [.ref (α 3 i 2), .ref (α 3 i 3)])) := h.1 3 i 1 _ (if_pos hi)
theorem Rc.w2 (h : Rc y nw no nt wk κ α f) {i : Nat} (hi : i < nw) : f (α 3 i 2) = some (.inl (y 0, 31, .inl (κ 5 i))) := h.1 3 i 2 _ (if_pos hi)
theorem Rc.w3 (h : Rc y nw no nt wk κ α f) {i : Nat} (hi : i < nw) : f (α 3 i 3) = some (.inl (y 1, 31, .inl (κ 6 i))) := h.1 3 i 3 _ (if_pos hi)
theorem Rc.w4 (h : Rc y nw no nt wk κ α f) {i : Nat} (hi : i < nw) : f (α 3 i 4) = some (.inl (y 5, 20, .inr (.inr (.inr (.inr (shRow κ α i)))))) := h.1 3 i 4 _ (if_pos hi)
theorem Rc.w5 (h : Rc y nw no nt wk κ α f) {i : Nat} (hi : i < nw) : f (α 3 i 5) = some (.inl (y 6, 31, .inr (.inr (.inr (.inr (slRow κ α i)))))) := h.1 3 i 5 _ (if_pos hi)
theorem Rc.sh (h : Rc y nw no nt wk κ α f) {i j : Nat} (hi : i < nw) (hj : j < 20) (hs : ¬ κ 7 i j = -1) : f (α 4 i j) = some (.inr (4, [.int (κ 7 i j), .int (κ 8 i j), .int (κ 9 i j)])) := h.1 4 i j _ (if_pos ⟨hi, hj, hs⟩)
theorem Rc.sl (h : Rc y nw no nt wk κ α f) {i j : Nat} (hi : i < nw) (hj : j < 31) (hs : κ 10 i j = 1) : f (α 5 i j) = some (.inr (5, [.int (κ 11 i j), .int (κ 12 i j), .int (κ 13 i j), .int (κ 14 i j)])) := h.1 5 i j _ (if_pos ⟨hi, hj, hs⟩)
theorem Rc.o (h : Rc y nw no nt wk κ α f) {i : Nat} (hi : i < no) : f (α 6 i 0) = some (.inr (0, [.ref (α 3 (κ 15 i 0).toNatClampNeg 0), .int (κ 15 i 1), .int (κ 15 i 2), .int (κ 15 i 3)])) := h.1 6 i 0 _ (if_pos ⟨hi, rfl⟩)
theorem Rc.t (h : Rc y nw no nt wk κ α f) {i : Nat} (hi : i < nt) : f (α 7 i 0) = some (.inr (6, [.ref (α 1 (κ 16 i 0).toNatClampNeg 0), .int (κ 16 i 1), .int (κ 16 i 2)])) := h.1 7 i 0 _ (if_pos ⟨hi, rfl⟩)
/-- one cell changes -/
theorem Rc.set {κ2 : cS} {wk2 : Nat} (h : Rc y nw no nt wk κ α f) (k0 i0 j0 : Nat) (e : va_E) (hl : cellC y nw no nt wk κ α k0 i0 j0 ≠ none) (he : cellC y nw no nt wk2 κ2 α k0 i0 j0 = some e) (ho : ∀ k i j, ¬ (k = k0 ∧ i = i0 ∧ j = j0) → cellC y nw no nt wk2 κ2 α k i j = cellC y nw no nt wk κ α k i j) : Rc y nw no nt wk2 κ2 α (fw_up f (α k0 i0 j0) e) := by
  have hn : ∀ k i j, cellC y nw no nt wk2 κ2 α k i j ≠ none → cellC y nw no nt wk κ α k i j ≠ none := by
    intro k i j q
    by_cases z : k = k0 ∧ i = i0 ∧ j = j0
    · obtain ⟨rfl, rfl, rfl⟩ := z
      exact hl
    · rw [ho k i j z] at q
      exact q
  refine ⟨fun k i j e2 h2 => ?_, fun k i j k' i' j' h1 h2 h3 => h.2 k i j k' i' j' (hn _ _ _ h1) (hn _ _ _ h2) h3⟩
  by_cases z : k = k0 ∧ i = i0 ∧ j = j0
  · obtain ⟨rfl, rfl, rfl⟩ := z
    rw [he] at h2
    cases h2
    exact fw_up_s
  · rw [ho k i j z] at h2
    rw [fw_up_n]
    · exact h.1 k i j e2 h2
    · intro q
      exact z (h.2 k i j k0 i0 j0 (by rw [h2]; exact fun z => nomatch z) hl q)
set_option maxRecDepth 100000 in
theorem upF_e {κ : cS} {K I J i j : Nat} {v : Int32} (h : ¬ (i = I ∧ j = J)) : upF κ K I (va_up (κ K I) J v) K i j = κ K i j := by
  by_cases z : i = I
  · subst z
    rw [upF_s, va_up_n (fun q => h ⟨rfl, q⟩)]
  · rw [upF_i z]
set_option maxRecDepth 100000 in
theorem cellC_c0 {κ2 : cS} (i j : Nat) (h0 : j = 0 → κ2 0 0 = κ 0 0) : cellC y nw no nt wk κ2 α 0 i j = cellC y nw no nt wk κ α 0 i j := by
  show (if i = 0 then _ else _) = (if i = 0 then _ else _)
  by_cases q : i = 0
  · rw [if_pos q, if_pos q]
    match j with
    | 0 => exact congrArg (fun (t : Nat → Int32) => (some (.inr (8, [.ref (α 0 0 1), .ref (α 0 0 2), .ref (α 0 0 3), .ref (α 0 0 4), .ref (α 0 0 5), .int (nI nw), .int (nI no), .int (nI nt), .int (t 0), .int (nI wk)])) : Option va_E)) (h0 rfl)
    | 1 => rfl
    | 2 => rfl
    | 3 => rfl
    | 4 => rfl
    | 5 => rfl
    | _ + 6 => rfl
  · rw [if_neg q, if_neg q]
set_option maxRecDepth 100000 in
theorem cellC_c1 {κ2 : cS} (i j : Nat) (h1 : j = 0 → κ2 1 i = κ 1 i) : cellC y nw no nt wk κ2 α 1 i j = cellC y nw no nt wk κ α 1 i j := by
  show (if i < 3 ∧ j = 0 then _ else _) = (if i < 3 ∧ j = 0 then _ else _)
  by_cases q : i < 3 ∧ j = 0
  · rw [if_pos q, if_pos q]
    rw [h1 q.2]
  · rw [if_neg q, if_neg q]
set_option maxRecDepth 100000 in
theorem cellC_c2 {κ2 : cS} (i j : Nat) (h2 : j = 2 → κ2 2 (2 * i) = κ 2 (2 * i)) (h3 : j = 3 → κ2 3 (2 * i) = κ 3 (2 * i)) (h4 : j = 5 → κ2 2 (2 * i + 1) = κ 2 (2 * i + 1)) (h5 : j = 6 → κ2 3 (2 * i + 1) = κ 3 (2 * i + 1)) : cellC y nw no nt wk κ2 α 2 i j = cellC y nw no nt wk κ α 2 i j := by
  show (if i < 3 then _ else _) = (if i < 3 then _ else _)
  by_cases q : i < 3
  · rw [if_pos q, if_pos q]
    match j with
    | 0 => rfl
    | 1 => rfl
    | 2 => exact congrArg (fun (t : Nat → Int32) => (some (.inl (y 0, 31, .inl t)) : Option va_E)) (h2 rfl)
    | 3 => exact congrArg (fun (t : Nat → Int32) => (some (.inl (y 1, 31, .inl t)) : Option va_E)) (h3 rfl)
    | 4 => rfl
    | 5 => exact congrArg (fun (t : Nat → Int32) => (some (.inl (y 0, 31, .inl t)) : Option va_E)) (h4 rfl)
    | 6 => exact congrArg (fun (t : Nat → Int32) => (some (.inl (y 1, 31, .inl t)) : Option va_E)) (h5 rfl)
    | _ + 7 => rfl
  · rw [if_neg q, if_neg q]
set_option maxRecDepth 100000 in
theorem cellC_c3 {κ2 : cS} (i j : Nat) (h6 : j = 0 → κ2 4 i = κ 4 i) (h7 : j = 2 → κ2 5 i = κ 5 i) (h8 : j = 3 → κ2 6 i = κ 6 i) (h9 : j = 4 → κ2 7 i = κ 7 i) (h10 : j = 5 → κ2 10 i = κ 10 i) : cellC y nw no nt wk κ2 α 3 i j = cellC y nw no nt wk κ α 3 i j := by
  show (if i < nw then _ else _) = (if i < nw then _ else _)
  by_cases q : i < nw
  · rw [if_pos q, if_pos q]
    match j with
    | 0 => exact congrArg some (show wkCell κ2 α i = wkCell κ α i by unfold wkCell; rw [h6 rfl])
    | 1 => exact Eq.refl (some (.inr (3, [.ref (α 3 i 2), .ref (α 3 i 3)])) : Option va_E)
    | 2 => exact congrArg (fun (t : Nat → Int32) => (some (.inl (y 0, 31, .inl t)) : Option va_E)) (h7 rfl)
    | 3 => exact congrArg (fun (t : Nat → Int32) => (some (.inl (y 1, 31, .inl t)) : Option va_E)) (h8 rfl)
    | 4 => exact congrArg (fun (t : Nat → Option Nat) => (some (.inl (y 5, 20, .inr (.inr (.inr (.inr t))))) : Option va_E)) (show shRow κ2 α i = shRow κ α i by unfold shRow; rw [h9 rfl])
    | 5 => exact congrArg (fun (t : Nat → Option Nat) => (some (.inl (y 6, 31, .inr (.inr (.inr (.inr t))))) : Option va_E)) (show slRow κ2 α i = slRow κ α i by unfold slRow; rw [h10 rfl])
    | _ + 6 => exact Eq.refl (none : Option va_E)
  · rw [if_neg q, if_neg q]
set_option maxRecDepth 100000 in
theorem cellC_c4 {κ2 : cS} (i j : Nat) (h11 : κ2 7 i j = κ 7 i j) (h12 : κ2 8 i j = κ 8 i j) (h13 : κ2 9 i j = κ 9 i j) : cellC y nw no nt wk κ2 α 4 i j = cellC y nw no nt wk κ α 4 i j := by
  show (if i < nw ∧ j < 20 ∧ ¬ κ2 7 i j = -1 then (some (.inr (4, [.int (κ2 7 i j), .int (κ2 8 i j), .int (κ2 9 i j)])) : Option va_E) else none) = (if i < nw ∧ j < 20 ∧ ¬ κ 7 i j = -1 then (some (.inr (4, [.int (κ 7 i j), .int (κ 8 i j), .int (κ 9 i j)])) : Option va_E) else none)
  rw [h11, h12, h13]
set_option maxRecDepth 100000 in
theorem cellC_c5 {κ2 : cS} (i j : Nat) (h14 : κ2 10 i j = κ 10 i j) (h15 : κ2 11 i j = κ 11 i j) (h16 : κ2 12 i j = κ 12 i j) (h17 : κ2 13 i j = κ 13 i j) (h18 : κ2 14 i j = κ 14 i j) : cellC y nw no nt wk κ2 α 5 i j = cellC y nw no nt wk κ α 5 i j := by
  show (if i < nw ∧ j < 31 ∧ κ2 10 i j = 1 then (some (.inr (5, [.int (κ2 11 i j), .int (κ2 12 i j), .int (κ2 13 i j), .int (κ2 14 i j)])) : Option va_E) else none) = (if i < nw ∧ j < 31 ∧ κ 10 i j = 1 then (some (.inr (5, [.int (κ 11 i j), .int (κ 12 i j), .int (κ 13 i j), .int (κ 14 i j)])) : Option va_E) else none)
  rw [h14, h15, h16, h17, h18]
set_option maxRecDepth 100000 in
theorem cellC_c6 {κ2 : cS} (i j : Nat) (h19 : j = 0 → κ2 15 i = κ 15 i) : cellC y nw no nt wk κ2 α 6 i j = cellC y nw no nt wk κ α 6 i j := by
  show (if i < no ∧ j = 0 then _ else _) = (if i < no ∧ j = 0 then _ else _)
  by_cases q : i < no ∧ j = 0
  · rw [if_pos q, if_pos q]
    rw [h19 q.2]
  · rw [if_neg q, if_neg q]
set_option maxRecDepth 100000 in
theorem cellC_c7 {κ2 : cS} (i j : Nat) (h20 : j = 0 → κ2 16 i = κ 16 i) : cellC y nw no nt wk κ2 α 7 i j = cellC y nw no nt wk κ α 7 i j := by
  show (if i < nt ∧ j = 0 then _ else _) = (if i < nt ∧ j = 0 then _ else _)
  by_cases q : i < nt ∧ j = 0
  · rw [if_pos q, if_pos q]
    rw [h20 q.2]
  · rw [if_neg q, if_neg q]
set_option maxRecDepth 100000 in
theorem cellC_cg {κ2 : cS} (k i j : Nat) (h0 : k = 0 → j = 0 → κ2 0 0 = κ 0 0) (h1 : k = 1 → j = 0 → κ2 1 i = κ 1 i) (h2 : k = 2 → j = 2 → κ2 2 (2 * i) = κ 2 (2 * i)) (h3 : k = 2 → j = 3 → κ2 3 (2 * i) = κ 3 (2 * i)) (h4 : k = 2 → j = 5 → κ2 2 (2 * i + 1) = κ 2 (2 * i + 1)) (h5 : k = 2 → j = 6 → κ2 3 (2 * i + 1) = κ 3 (2 * i + 1)) (h6 : k = 3 → j = 0 → κ2 4 i = κ 4 i) (h7 : k = 3 → j = 2 → κ2 5 i = κ 5 i) (h8 : k = 3 → j = 3 → κ2 6 i = κ 6 i) (h9 : k = 3 → j = 4 → κ2 7 i = κ 7 i) (h10 : k = 3 → j = 5 → κ2 10 i = κ 10 i) (h11 : k = 4 → κ2 7 i j = κ 7 i j) (h12 : k = 4 → κ2 8 i j = κ 8 i j) (h13 : k = 4 → κ2 9 i j = κ 9 i j) (h14 : k = 5 → κ2 10 i j = κ 10 i j) (h15 : k = 5 → κ2 11 i j = κ 11 i j) (h16 : k = 5 → κ2 12 i j = κ 12 i j) (h17 : k = 5 → κ2 13 i j = κ 13 i j) (h18 : k = 5 → κ2 14 i j = κ 14 i j) (h19 : k = 6 → j = 0 → κ2 15 i = κ 15 i) (h20 : k = 7 → j = 0 → κ2 16 i = κ 16 i) : cellC y nw no nt wk κ2 α k i j = cellC y nw no nt wk κ α k i j := by
  match k with
  | 0 => exact cellC_c0 i j (h0 rfl)
  | 1 => exact cellC_c1 i j (h1 rfl)
  | 2 => exact cellC_c2 i j (h2 rfl) (h3 rfl) (h4 rfl) (h5 rfl)
  | 3 => exact cellC_c3 i j (h6 rfl) (h7 rfl) (h8 rfl) (h9 rfl) (h10 rfl)
  | 4 => exact cellC_c4 i j (h11 rfl) (h12 rfl) (h13 rfl)
  | 5 => exact cellC_c5 i j (h14 rfl) (h15 rfl) (h16 rfl) (h17 rfl) (h18 rfl)
  | 6 => exact cellC_c6 i j (h19 rfl)
  | 7 => exact cellC_c7 i j (h20 rfl)
  | _ + 8 => exact Eq.refl (none : Option va_E)
set_option maxRecDepth 100000 in
theorem cellC_wk {wk2 : Nat} (k i j : Nat) (h : ¬ (k = 0 ∧ i = 0 ∧ j = 0)) : cellC y nw no nt wk2 κ α k i j = cellC y nw no nt wk κ α k i j := by
  match k with
  | 0 =>
    show (if i = 0 then _ else _) = (if i = 0 then _ else _)
    by_cases q : i = 0
    · rw [if_pos q, if_pos q]
      match j with
      | 0 => exact absurd ⟨rfl, q, rfl⟩ h
      | 1 => rfl
      | 2 => rfl
      | 3 => rfl
      | 4 => rfl
      | 5 => rfl
      | _ + 6 => rfl
    · rw [if_neg q, if_neg q]
  | 1 => rfl
  | 2 => rfl
  | 3 => rfl
  | 4 => rfl
  | 5 => rfl
  | 6 => rfl
  | 7 => rfl
  | _ + 8 => rfl
set_option maxRecDepth 100000 in
theorem Rc.setFl (h : Rc y nw no nt wk κ α f) (v : Int32) : Rc y nw no nt wk (upF κ 0 0 (va_up (κ 0 0) 0 v)) α (fw_up f (α 0 0 0) (.inr (8, [.ref (α 0 0 1), .ref (α 0 0 2), .ref (α 0 0 3), .ref (α 0 0 4), .ref (α 0 0 5), .int (nI nw), .int (nI no), .int (nI nt), .int v, .int (nI wk)]))) := by
  refine h.set 0 0 0 _ (fun q => nomatch q) ?_ (fun k i j z => ?_)
  · show (some (.inr (8, [.ref (α 0 0 1), .ref (α 0 0 2), .ref (α 0 0 3), .ref (α 0 0 4), .ref (α 0 0 5), .int (nI nw), .int (nI no), .int (nI nt), .int (upF κ 0 0 (va_up (κ 0 0) 0 v) 0 0 0), .int (nI wk)])) : Option va_E) = _
    rw [upF_s, va_up_s]
  · by_cases q : k = 0 ∧ ¬ i = 0
    · obtain ⟨rfl, q⟩ := q
      exact (if_neg q).trans (if_neg q).symm
    · exact cellC_cg k i j (fun q1 q2 => absurd (Decidable.byContradiction (fun q3 => q ⟨q1, q3⟩)) (fun q3 => z ⟨q1, q3, q2⟩)) (fun _ _ => by rw [upF_k (by decide)]) (fun _ _ => by rw [upF_k (by decide)]) (fun _ _ => by rw [upF_k (by decide)]) (fun _ _ => by rw [upF_k (by decide)]) (fun _ _ => by rw [upF_k (by decide)]) (fun _ _ => by rw [upF_k (by decide)]) (fun _ _ => by rw [upF_k (by decide)]) (fun _ _ => by rw [upF_k (by decide)]) (fun _ _ => by rw [upF_k (by decide)]) (fun _ _ => by rw [upF_k (by decide)]) (fun _ => by rw [upF_k (by decide)]) (fun _ => by rw [upF_k (by decide)]) (fun _ => by rw [upF_k (by decide)]) (fun _ => by rw [upF_k (by decide)]) (fun _ => by rw [upF_k (by decide)]) (fun _ => by rw [upF_k (by decide)]) (fun _ => by rw [upF_k (by decide)]) (fun _ => by rw [upF_k (by decide)]) (fun _ _ => by rw [upF_k (by decide)]) (fun _ _ => by rw [upF_k (by decide)])
set_option maxRecDepth 100000 in
theorem Rc.setWk (h : Rc y nw no nt wk κ α f) (wk2 : Nat) : Rc y nw no nt wk2 κ α (fw_up f (α 0 0 0) (.inr (8, [.ref (α 0 0 1), .ref (α 0 0 2), .ref (α 0 0 3), .ref (α 0 0 4), .ref (α 0 0 5), .int (nI nw), .int (nI no), .int (nI nt), .int (κ 0 0 0), .int (nI wk2)]))) :=
  h.set 0 0 0 _ (fun q => nomatch q) rfl (fun k i j z => cellC_wk k i j z)
set_option maxRecDepth 100000 in
theorem Rc.setP (h : Rc y nw no nt wk κ α f) {e : Nat} (he : e < 3) (c s : Int32) : Rc y nw no nt wk (upF κ 1 e (va_up (va_up (κ 1 e) 0 c) 1 s)) α (fw_up f (α 1 e 0) (.inr (1, [.int c, .int s]))) := by
  refine h.set 1 e 0 _ ?_ ?_ (fun k i j z => cellC_cg k i j (fun _ _ => by rw [upF_k (by decide)]) (fun q1 q2 => upF_i (fun r => z ⟨q1, r, q2⟩)) (fun _ _ => by rw [upF_k (by decide)]) (fun _ _ => by rw [upF_k (by decide)]) (fun _ _ => by rw [upF_k (by decide)]) (fun _ _ => by rw [upF_k (by decide)]) (fun _ _ => by rw [upF_k (by decide)]) (fun _ _ => by rw [upF_k (by decide)]) (fun _ _ => by rw [upF_k (by decide)]) (fun _ _ => by rw [upF_k (by decide)]) (fun _ _ => by rw [upF_k (by decide)]) (fun _ => by rw [upF_k (by decide)]) (fun _ => by rw [upF_k (by decide)]) (fun _ => by rw [upF_k (by decide)]) (fun _ => by rw [upF_k (by decide)]) (fun _ => by rw [upF_k (by decide)]) (fun _ => by rw [upF_k (by decide)]) (fun _ => by rw [upF_k (by decide)]) (fun _ => by rw [upF_k (by decide)]) (fun _ _ => by rw [upF_k (by decide)]) (fun _ _ => by rw [upF_k (by decide)]))
  · rw [show cellC y nw no nt wk κ α 1 e 0 = some _ from if_pos ⟨he, rfl⟩]
    exact fun q => nomatch q
  · refine (if_pos ⟨he, rfl⟩).trans ?_
    rw [upF_s, va_up_s, va_up_n (by decide), va_up_s]
set_option maxRecDepth 100000 in
theorem Rc.setW (h : Rc y nw no nt wk κ α f) {w : Nat} (hw : w < nw) (g : Nat → Int32) (hg : g 0 = κ 4 w 0) : Rc y nw no nt wk (upF κ 4 w g) α (fw_up f (α 3 w 0) (.inr (7, [.ref (α 1 (κ 4 w 0).toNatClampNeg 0), .ref (α 3 w 1), .int (g 1), .int (g 2), .int (g 3), .int (g 4), .ref (α 3 w 4), .ref (α 3 w 5)]))) := by
  refine h.set 3 w 0 _ ?_ ?_ (fun k i j z => cellC_cg k i j (fun _ _ => by rw [upF_k (by decide)]) (fun _ _ => by rw [upF_k (by decide)]) (fun _ _ => by rw [upF_k (by decide)]) (fun _ _ => by rw [upF_k (by decide)]) (fun _ _ => by rw [upF_k (by decide)]) (fun _ _ => by rw [upF_k (by decide)]) (fun q1 q2 => upF_i (fun r => z ⟨q1, r, q2⟩)) (fun _ _ => by rw [upF_k (by decide)]) (fun _ _ => by rw [upF_k (by decide)]) (fun _ _ => by rw [upF_k (by decide)]) (fun _ _ => by rw [upF_k (by decide)]) (fun _ => by rw [upF_k (by decide)]) (fun _ => by rw [upF_k (by decide)]) (fun _ => by rw [upF_k (by decide)]) (fun _ => by rw [upF_k (by decide)]) (fun _ => by rw [upF_k (by decide)]) (fun _ => by rw [upF_k (by decide)]) (fun _ => by rw [upF_k (by decide)]) (fun _ => by rw [upF_k (by decide)]) (fun _ _ => by rw [upF_k (by decide)]) (fun _ _ => by rw [upF_k (by decide)]))
  · rw [show cellC y nw no nt wk κ α 3 w 0 = some _ from if_pos hw]
    exact fun q => nomatch q
  · refine (if_pos hw).trans ?_
    simp only [wkCell, upF_s, hg]
set_option maxRecDepth 100000 in
theorem Rc.setO (h : Rc y nw no nt wk κ α f) {o : Nat} (hw : o < no) (v : Int32) : Rc y nw no nt wk (upF κ 15 o (va_up (κ 15 o) 2 v)) α (fw_up f (α 6 o 0) (.inr (0, [.ref (α 3 (κ 15 o 0).toNatClampNeg 0), .int (κ 15 o 1), .int v, .int (κ 15 o 3)]))) := by
  refine h.set 6 o 0 _ ?_ ?_ (fun k i j z => cellC_cg k i j (fun _ _ => by rw [upF_k (by decide)]) (fun _ _ => by rw [upF_k (by decide)]) (fun _ _ => by rw [upF_k (by decide)]) (fun _ _ => by rw [upF_k (by decide)]) (fun _ _ => by rw [upF_k (by decide)]) (fun _ _ => by rw [upF_k (by decide)]) (fun _ _ => by rw [upF_k (by decide)]) (fun _ _ => by rw [upF_k (by decide)]) (fun _ _ => by rw [upF_k (by decide)]) (fun _ _ => by rw [upF_k (by decide)]) (fun _ _ => by rw [upF_k (by decide)]) (fun _ => by rw [upF_k (by decide)]) (fun _ => by rw [upF_k (by decide)]) (fun _ => by rw [upF_k (by decide)]) (fun _ => by rw [upF_k (by decide)]) (fun _ => by rw [upF_k (by decide)]) (fun _ => by rw [upF_k (by decide)]) (fun _ => by rw [upF_k (by decide)]) (fun _ => by rw [upF_k (by decide)]) (fun q1 q2 => upF_i (fun r => z ⟨q1, r, q2⟩)) (fun _ _ => by rw [upF_k (by decide)]))
  · rw [show cellC y nw no nt wk κ α 6 o 0 = some _ from if_pos ⟨hw, rfl⟩]
    exact fun q => nomatch q
  · refine (if_pos ⟨hw, rfl⟩).trans ?_
    rw [upF_s, va_up_s, va_up_n (by decide), va_up_n (by decide), va_up_n (by decide)]
set_option maxRecDepth 100000 in
theorem Rc.setT (h : Rc y nw no nt wk κ α f) {o : Nat} (hw : o < nt) (v : Int32) : Rc y nw no nt wk (upF κ 16 o (va_up (κ 16 o) 2 v)) α (fw_up f (α 7 o 0) (.inr (6, [.ref (α 1 (κ 16 o 0).toNatClampNeg 0), .int (κ 16 o 1), .int v]))) := by
  refine h.set 7 o 0 _ ?_ ?_ (fun k i j z => cellC_cg k i j (fun _ _ => by rw [upF_k (by decide)]) (fun _ _ => by rw [upF_k (by decide)]) (fun _ _ => by rw [upF_k (by decide)]) (fun _ _ => by rw [upF_k (by decide)]) (fun _ _ => by rw [upF_k (by decide)]) (fun _ _ => by rw [upF_k (by decide)]) (fun _ _ => by rw [upF_k (by decide)]) (fun _ _ => by rw [upF_k (by decide)]) (fun _ _ => by rw [upF_k (by decide)]) (fun _ _ => by rw [upF_k (by decide)]) (fun _ _ => by rw [upF_k (by decide)]) (fun _ => by rw [upF_k (by decide)]) (fun _ => by rw [upF_k (by decide)]) (fun _ => by rw [upF_k (by decide)]) (fun _ => by rw [upF_k (by decide)]) (fun _ => by rw [upF_k (by decide)]) (fun _ => by rw [upF_k (by decide)]) (fun _ => by rw [upF_k (by decide)]) (fun _ => by rw [upF_k (by decide)]) (fun _ _ => by rw [upF_k (by decide)]) (fun q1 q2 => upF_i (fun r => z ⟨q1, r, q2⟩)))
  · rw [show cellC y nw no nt wk κ α 7 o 0 = some _ from if_pos ⟨hw, rfl⟩]
    exact fun q => nomatch q
  · refine (if_pos ⟨hw, rfl⟩).trans ?_
    rw [upF_s, va_up_s, va_up_n (by decide), va_up_n (by decide)]
set_option maxRecDepth 100000 in
theorem Rc.setS (h : Rc y nw no nt wk κ α f) {w s : Nat} (hw : w < nw) (hs : s < 20) (hx : ¬ κ 7 w s = -1) (a b : Int32) : Rc y nw no nt wk (upF (upF κ 8 w (va_up (κ 8 w) s a)) 9 w (va_up (upF κ 8 w (va_up (κ 8 w) s a) 9 w) s b)) α (fw_up f (α 4 w s) (.inr (4, [.int (κ 7 w s), .int a, .int b]))) := by
  refine h.set 4 w s _ ?_ ?_ (fun k i j z => cellC_cg k i j (fun _ _ => by rw [upF_k (by decide), upF_k (by decide)]) (fun _ _ => by rw [upF_k (by decide), upF_k (by decide)]) (fun _ _ => by rw [upF_k (by decide), upF_k (by decide)]) (fun _ _ => by rw [upF_k (by decide), upF_k (by decide)]) (fun _ _ => by rw [upF_k (by decide), upF_k (by decide)]) (fun _ _ => by rw [upF_k (by decide), upF_k (by decide)]) (fun _ _ => by rw [upF_k (by decide), upF_k (by decide)]) (fun _ _ => by rw [upF_k (by decide), upF_k (by decide)]) (fun _ _ => by rw [upF_k (by decide), upF_k (by decide)]) (fun _ _ => by rw [upF_k (by decide), upF_k (by decide)]) (fun _ _ => by rw [upF_k (by decide), upF_k (by decide)]) (fun _ => by rw [upF_k (by decide), upF_k (by decide)]) (fun q1 => by rw [upF_k (by decide)]; exact upF_e (fun r => z ⟨q1, r⟩)) (fun q1 => by rw [upF_e (fun r => z ⟨q1, r⟩), upF_k (by decide)]) (fun _ => by rw [upF_k (by decide), upF_k (by decide)]) (fun _ => by rw [upF_k (by decide), upF_k (by decide)]) (fun _ => by rw [upF_k (by decide), upF_k (by decide)]) (fun _ => by rw [upF_k (by decide), upF_k (by decide)]) (fun _ => by rw [upF_k (by decide), upF_k (by decide)]) (fun _ _ => by rw [upF_k (by decide), upF_k (by decide)]) (fun _ _ => by rw [upF_k (by decide), upF_k (by decide)]))
  · rw [show cellC y nw no nt wk κ α 4 w s = some _ from if_pos ⟨hw, hs, hx⟩]
    exact fun q => nomatch q
  · refine (if_pos ⟨hw, hs, by rw [upF_k (by decide), upF_k (by decide)]; exact hx⟩).trans ?_
    rw [upF_s, upF_k (a := 8) (b := w) (K := 9) (by decide), upF_s, va_up_s, va_up_s, upF_k (a := 7) (by decide), upF_k (a := 7) (by decide)]
set_option maxRecDepth 100000 in
theorem Rc.setDV (h : Rc y nw no nt wk κ α f) {r : Nat} (hr : r < 3) (g : Nat → Int32) : Rc y nw no nt wk (upF κ 2 (2 * r) g) α (fw_up f (α 2 r 2) (.inl (y 0, 31, .inl g))) := by
  refine h.set 2 r 2 _ ?_ ?_ (fun k i j z => cellC_cg k i j (fun _ _ => by rw [upF_k (by decide)]) (fun _ _ => by rw [upF_k (by decide)]) (fun q1 q2 => upF_i (fun r => z ⟨q1, by omega, q2⟩)) (fun _ _ => by rw [upF_k (by decide)]) (fun q1 q2 => upF_i (by omega)) (fun _ _ => by rw [upF_k (by decide)]) (fun _ _ => by rw [upF_k (by decide)]) (fun _ _ => by rw [upF_k (by decide)]) (fun _ _ => by rw [upF_k (by decide)]) (fun _ _ => by rw [upF_k (by decide)]) (fun _ _ => by rw [upF_k (by decide)]) (fun _ => by rw [upF_k (by decide)]) (fun _ => by rw [upF_k (by decide)]) (fun _ => by rw [upF_k (by decide)]) (fun _ => by rw [upF_k (by decide)]) (fun _ => by rw [upF_k (by decide)]) (fun _ => by rw [upF_k (by decide)]) (fun _ => by rw [upF_k (by decide)]) (fun _ => by rw [upF_k (by decide)]) (fun _ _ => by rw [upF_k (by decide)]) (fun _ _ => by rw [upF_k (by decide)]))
  · rw [show cellC y nw no nt wk κ α 2 r 2 = some _ from if_pos hr]
    exact fun q => nomatch q
  · refine (if_pos hr).trans ?_
    rw [upF_s]
set_option maxRecDepth 100000 in
theorem Rc.setDT (h : Rc y nw no nt wk κ α f) {r : Nat} (hr : r < 3) (g : Nat → Int32) : Rc y nw no nt wk (upF κ 3 (2 * r) g) α (fw_up f (α 2 r 3) (.inl (y 1, 31, .inl g))) := by
  refine h.set 2 r 3 _ ?_ ?_ (fun k i j z => cellC_cg k i j (fun _ _ => by rw [upF_k (by decide)]) (fun _ _ => by rw [upF_k (by decide)]) (fun _ _ => by rw [upF_k (by decide)]) (fun q1 q2 => upF_i (fun r => z ⟨q1, by omega, q2⟩)) (fun _ _ => by rw [upF_k (by decide)]) (fun q1 q2 => upF_i (by omega)) (fun _ _ => by rw [upF_k (by decide)]) (fun _ _ => by rw [upF_k (by decide)]) (fun _ _ => by rw [upF_k (by decide)]) (fun _ _ => by rw [upF_k (by decide)]) (fun _ _ => by rw [upF_k (by decide)]) (fun _ => by rw [upF_k (by decide)]) (fun _ => by rw [upF_k (by decide)]) (fun _ => by rw [upF_k (by decide)]) (fun _ => by rw [upF_k (by decide)]) (fun _ => by rw [upF_k (by decide)]) (fun _ => by rw [upF_k (by decide)]) (fun _ => by rw [upF_k (by decide)]) (fun _ => by rw [upF_k (by decide)]) (fun _ _ => by rw [upF_k (by decide)]) (fun _ _ => by rw [upF_k (by decide)]))
  · rw [show cellC y nw no nt wk κ α 2 r 3 = some _ from if_pos hr]
    exact fun q => nomatch q
  · refine (if_pos hr).trans ?_
    rw [upF_s]
set_option maxRecDepth 100000 in
theorem Rc.setNV (h : Rc y nw no nt wk κ α f) {r : Nat} (hr : r < 3) (g : Nat → Int32) : Rc y nw no nt wk (upF κ 2 (2 * r + 1) g) α (fw_up f (α 2 r 5) (.inl (y 0, 31, .inl g))) := by
  refine h.set 2 r 5 _ ?_ ?_ (fun k i j z => cellC_cg k i j (fun _ _ => by rw [upF_k (by decide)]) (fun _ _ => by rw [upF_k (by decide)]) (fun q1 q2 => upF_i (by omega)) (fun _ _ => by rw [upF_k (by decide)]) (fun q1 q2 => upF_i (fun r => z ⟨q1, by omega, q2⟩)) (fun _ _ => by rw [upF_k (by decide)]) (fun _ _ => by rw [upF_k (by decide)]) (fun _ _ => by rw [upF_k (by decide)]) (fun _ _ => by rw [upF_k (by decide)]) (fun _ _ => by rw [upF_k (by decide)]) (fun _ _ => by rw [upF_k (by decide)]) (fun _ => by rw [upF_k (by decide)]) (fun _ => by rw [upF_k (by decide)]) (fun _ => by rw [upF_k (by decide)]) (fun _ => by rw [upF_k (by decide)]) (fun _ => by rw [upF_k (by decide)]) (fun _ => by rw [upF_k (by decide)]) (fun _ => by rw [upF_k (by decide)]) (fun _ => by rw [upF_k (by decide)]) (fun _ _ => by rw [upF_k (by decide)]) (fun _ _ => by rw [upF_k (by decide)]))
  · rw [show cellC y nw no nt wk κ α 2 r 5 = some _ from if_pos hr]
    exact fun q => nomatch q
  · refine (if_pos hr).trans ?_
    rw [upF_s]
set_option maxRecDepth 100000 in
theorem Rc.setNT (h : Rc y nw no nt wk κ α f) {r : Nat} (hr : r < 3) (g : Nat → Int32) : Rc y nw no nt wk (upF κ 3 (2 * r + 1) g) α (fw_up f (α 2 r 6) (.inl (y 1, 31, .inl g))) := by
  refine h.set 2 r 6 _ ?_ ?_ (fun k i j z => cellC_cg k i j (fun _ _ => by rw [upF_k (by decide)]) (fun _ _ => by rw [upF_k (by decide)]) (fun _ _ => by rw [upF_k (by decide)]) (fun q1 q2 => upF_i (by omega)) (fun _ _ => by rw [upF_k (by decide)]) (fun q1 q2 => upF_i (fun r => z ⟨q1, by omega, q2⟩)) (fun _ _ => by rw [upF_k (by decide)]) (fun _ _ => by rw [upF_k (by decide)]) (fun _ _ => by rw [upF_k (by decide)]) (fun _ _ => by rw [upF_k (by decide)]) (fun _ _ => by rw [upF_k (by decide)]) (fun _ => by rw [upF_k (by decide)]) (fun _ => by rw [upF_k (by decide)]) (fun _ => by rw [upF_k (by decide)]) (fun _ => by rw [upF_k (by decide)]) (fun _ => by rw [upF_k (by decide)]) (fun _ => by rw [upF_k (by decide)]) (fun _ => by rw [upF_k (by decide)]) (fun _ => by rw [upF_k (by decide)]) (fun _ _ => by rw [upF_k (by decide)]) (fun _ _ => by rw [upF_k (by decide)]))
  · rw [show cellC y nw no nt wk κ α 2 r 6 = some _ from if_pos hr]
    exact fun q => nomatch q
  · refine (if_pos hr).trans ?_
    rw [upF_s]
set_option maxRecDepth 100000 in
theorem Rc.setRV (h : Rc y nw no nt wk κ α f) {r : Nat} (hr : r < nw) (g : Nat → Int32) : Rc y nw no nt wk (upF κ 5 (r) g) α (fw_up f (α 3 r 2) (.inl (y 0, 31, .inl g))) := by
  refine h.set 3 r 2 _ ?_ ?_ (fun k i j z => cellC_cg k i j (fun _ _ => by rw [upF_k (by decide)]) (fun _ _ => by rw [upF_k (by decide)]) (fun _ _ => by rw [upF_k (by decide)]) (fun _ _ => by rw [upF_k (by decide)]) (fun _ _ => by rw [upF_k (by decide)]) (fun _ _ => by rw [upF_k (by decide)]) (fun _ _ => by rw [upF_k (by decide)]) (fun q1 q2 => upF_i (fun r => z ⟨q1, by omega, q2⟩)) (fun _ _ => by rw [upF_k (by decide)]) (fun _ _ => by rw [upF_k (by decide)]) (fun _ _ => by rw [upF_k (by decide)]) (fun _ => by rw [upF_k (by decide)]) (fun _ => by rw [upF_k (by decide)]) (fun _ => by rw [upF_k (by decide)]) (fun _ => by rw [upF_k (by decide)]) (fun _ => by rw [upF_k (by decide)]) (fun _ => by rw [upF_k (by decide)]) (fun _ => by rw [upF_k (by decide)]) (fun _ => by rw [upF_k (by decide)]) (fun _ _ => by rw [upF_k (by decide)]) (fun _ _ => by rw [upF_k (by decide)]))
  · rw [show cellC y nw no nt wk κ α 3 r 2 = some _ from if_pos hr]
    exact fun q => nomatch q
  · refine (if_pos hr).trans ?_
    rw [upF_s]
set_option maxRecDepth 100000 in
theorem Rc.setRT (h : Rc y nw no nt wk κ α f) {r : Nat} (hr : r < nw) (g : Nat → Int32) : Rc y nw no nt wk (upF κ 6 (r) g) α (fw_up f (α 3 r 3) (.inl (y 1, 31, .inl g))) := by
  refine h.set 3 r 3 _ ?_ ?_ (fun k i j z => cellC_cg k i j (fun _ _ => by rw [upF_k (by decide)]) (fun _ _ => by rw [upF_k (by decide)]) (fun _ _ => by rw [upF_k (by decide)]) (fun _ _ => by rw [upF_k (by decide)]) (fun _ _ => by rw [upF_k (by decide)]) (fun _ _ => by rw [upF_k (by decide)]) (fun _ _ => by rw [upF_k (by decide)]) (fun _ _ => by rw [upF_k (by decide)]) (fun q1 q2 => upF_i (fun r => z ⟨q1, by omega, q2⟩)) (fun _ _ => by rw [upF_k (by decide)]) (fun _ _ => by rw [upF_k (by decide)]) (fun _ => by rw [upF_k (by decide)]) (fun _ => by rw [upF_k (by decide)]) (fun _ => by rw [upF_k (by decide)]) (fun _ => by rw [upF_k (by decide)]) (fun _ => by rw [upF_k (by decide)]) (fun _ => by rw [upF_k (by decide)]) (fun _ => by rw [upF_k (by decide)]) (fun _ => by rw [upF_k (by decide)]) (fun _ _ => by rw [upF_k (by decide)]) (fun _ _ => by rw [upF_k (by decide)]))
  · rw [show cellC y nw no nt wk κ α 3 r 3 = some _ from if_pos hr]
    exact fun q => nomatch q
  · refine (if_pos hr).trans ?_
    rw [upF_s]
end RC
