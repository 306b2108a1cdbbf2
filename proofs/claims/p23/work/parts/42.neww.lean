section NW
variable {y : Nat → ClassId} {nw no nt wk : Nat} {κ : cS} {α : Nat → Nat → Nat → Nat} {f : fw_F}
def wrow0 (e : Nat) : Nat → Int32 := fun t => match t with
  | 0 => nI e
  | _ => 0
def nwK (κ : cS) (nw e : Nat) : cS := upF (upF (upF (upF (upF κ 4 nw (wrow0 e)) 5 nw (fillv 0 31)) 6 nw (fun _ => 0)) 7 nw (fun _ => -1)) 10 nw (fun _ => 0)
theorem nwK_k {κ : cS} {nw e k : Nat} (h4 : k ≠ 4) (h5 : k ≠ 5) (h6 : k ≠ 6) (h7 : k ≠ 7) (h10 : k ≠ 10) : nwK κ nw e k = κ k := funext fun b => by unfold nwK; rw [upF_k h10, upF_k h7, upF_k h6, upF_k h5, upF_k h4]
theorem nwK_i {κ : cS} {nw e k i : Nat} (h : i ≠ nw) : nwK κ nw e k i = κ k i := by unfold nwK; rw [upF_i h, upF_i h, upF_i h, upF_i h, upF_i h]
theorem nwK_4 {κ : cS} {nw e : Nat} : nwK κ nw e 4 nw = wrow0 e := by unfold nwK; rw [upF_k (by decide), upF_k (by decide), upF_k (by decide), upF_k (by decide), upF_s]
theorem nwK_5 {κ : cS} {nw e : Nat} : nwK κ nw e 5 nw = fillv 0 31 := by unfold nwK; rw [upF_k (by decide), upF_k (by decide), upF_k (by decide), upF_s]
theorem nwK_6 {κ : cS} {nw e : Nat} : nwK κ nw e 6 nw = fun _ => 0 := by unfold nwK; rw [upF_k (by decide), upF_k (by decide), upF_s]
theorem nwK_7 {κ : cS} {nw e : Nat} : nwK κ nw e 7 nw = fun _ => -1 := by unfold nwK; rw [upF_k (by decide), upF_s]
theorem nwK_10 {κ : cS} {nw e : Nat} : nwK κ nw e 10 nw = fun _ => 0 := by unfold nwK; rw [upF_s]
def aW (α : Nat → Nat → Nat → Nat) (nw : Nat) (Q : Nat → Nat) : Nat → Nat → Nat → Nat := fun k i j => if k = 3 ∧ i = nw then Q j else α k i j
theorem aW_s {Q : Nat → Nat} {j : Nat} : aW α nw Q 3 nw j = Q j := if_pos ⟨rfl, rfl⟩
theorem aW_k {Q : Nat → Nat} {k i j : Nat} (h : k ≠ 3) : aW α nw Q k i j = α k i j := if_neg (fun z => h z.1)
theorem aW_i {Q : Nat → Nat} {k i j : Nat} (h : i ≠ nw) : aW α nw Q k i j = α k i j := if_neg (fun z => h z.2)
def nwCell (y : Nat → ClassId) (e : Nat) (α : Nat → Nat → Nat → Nat) (Q : Nat → Nat) (j : Nat) : Option va_E :=
  match j with
  | 0 => some (.inr (7, [.ref (α 1 e 0), .ref (Q 1), .int 0, .int 0, .int 0, .int 0, .ref (Q 4), .ref (Q 5)]))
  | 1 => some (.inr (3, [.ref (Q 2), .ref (Q 3)]))
  | 2 => some (.inl (y 0, 31, .inl (fillv 0 31)))
  | 3 => some (.inl (y 1, 31, .inl (fun _ => 0)))
  | 4 => some (.inl (y 5, 20, .inr (.inr (.inr (.inr (fun _ => none))))))
  | 5 => some (.inl (y 6, 31, .inr (.inr (.inr (.inr (fun _ => none))))))
  | _ => none
theorem newW_w {e : Nat} {Q : Nat → Nat} (he : e < 3) : wkCell (nwK κ nw e) (aW α nw Q) nw = .inr (7, [.ref (α 1 e 0), .ref (Q 1), .int 0, .int 0, .int 0, .int 0, .ref (Q 4), .ref (Q 5)]) := by
  have h0 : nwK κ nw e 4 nw 0 = nI e := by rw [nwK_4]; rfl
  have h1 : nwK κ nw e 4 nw 1 = 0 := by rw [nwK_4]; rfl
  have h2 : nwK κ nw e 4 nw 2 = 0 := by rw [nwK_4]; rfl
  have h3 : nwK κ nw e 4 nw 3 = 0 := by rw [nwK_4]; rfl
  have h4 : nwK κ nw e 4 nw 4 = 0 := by rw [nwK_4]; rfl
  have a1 : ∀ n, aW α nw Q 1 n 0 = α 1 n 0 := fun _ => aW_k (by decide)
  unfold wkCell
  rw [h0, h1, h2, h3, h4, aW_s, aW_s, aW_s, a1, nI_clamp (n := e) (by omega)]
theorem newW_30 {e : Nat} {Q : Nat → Nat} (he : e < 3) : cc3 y (nw + 1) (nwK κ nw e) (aW α nw Q) nw 0 = nwCell y e α Q 0 := (if_pos (Nat.lt_succ_self nw)).trans (congrArg some (newW_w he))
theorem newW_31 {e : Nat} {Q : Nat → Nat} : cc3 y (nw + 1) (nwK κ nw e) (aW α nw Q) nw 1 = nwCell y e α Q 1 := by
  refine (if_pos (Nat.lt_succ_self nw)).trans ?_
  show (some (.inr (3, [.ref (aW α nw Q 3 nw 2), .ref (aW α nw Q 3 nw 3)])) : Option va_E) = some (.inr (3, [.ref (Q 2), .ref (Q 3)]))
  rw [aW_s, aW_s]
theorem newW_32 {e : Nat} {Q : Nat → Nat} : cc3 y (nw + 1) (nwK κ nw e) (aW α nw Q) nw 2 = nwCell y e α Q 2 := (if_pos (Nat.lt_succ_self nw)).trans (congrArg (fun (t : Nat → Int32) => (some (.inl (y 0, 31, .inl t)) : Option va_E)) nwK_5)
theorem newW_33 {e : Nat} {Q : Nat → Nat} : cc3 y (nw + 1) (nwK κ nw e) (aW α nw Q) nw 3 = nwCell y e α Q 3 := (if_pos (Nat.lt_succ_self nw)).trans (congrArg (fun (t : Nat → Int32) => (some (.inl (y 1, 31, .inl t)) : Option va_E)) nwK_6)
theorem newW_34 {e : Nat} {Q : Nat → Nat} : cc3 y (nw + 1) (nwK κ nw e) (aW α nw Q) nw 4 = nwCell y e α Q 4 := by
  have hr : shRow (nwK κ nw e) (aW α nw Q) nw = fun _ => none := by
    funext k
    unfold shRow
    rw [nwK_7]
    exact if_neg (fun z => z.2 rfl)
  exact (if_pos (Nat.lt_succ_self nw)).trans (congrArg (fun (t : Nat → Option Nat) => (some (.inl (y 5, 20, .inr (.inr (.inr (.inr t))))) : Option va_E)) hr)
theorem newW_35 {e : Nat} {Q : Nat → Nat} : cc3 y (nw + 1) (nwK κ nw e) (aW α nw Q) nw 5 = nwCell y e α Q 5 := by
  have hr : slRow (nwK κ nw e) (aW α nw Q) nw = fun _ => none := by
    funext k
    unfold slRow
    rw [nwK_10]
    exact if_neg (fun z => absurd (show (0 : Int32) = 1 from z.2) (by decide))
  exact (if_pos (Nat.lt_succ_self nw)).trans (congrArg (fun (t : Nat → Option Nat) => (some (.inl (y 6, 31, .inr (.inr (.inr (.inr t))))) : Option va_E)) hr)
theorem newW_36 {e j : Nat} {Q : Nat → Nat} : cc3 y (nw + 1) (nwK κ nw e) (aW α nw Q) nw (j + 6) = nwCell y e α Q (j + 6) := Eq.trans (b := (none : Option va_E)) (if_pos (Nat.lt_succ_self nw)) (Eq.refl (none : Option va_E))
theorem newW_3 {e : Nat} {Q : Nat → Nat} (he : e < 3) (j : Nat) : cc3 y (nw + 1) (nwK κ nw e) (aW α nw Q) nw j = nwCell y e α Q j := by
  match j with
  | 0 => exact newW_30 he
  | 1 => exact newW_31
  | 2 => exact newW_32
  | 3 => exact newW_33
  | 4 => exact newW_34
  | 5 => exact newW_35
  | j + 6 => exact newW_36
theorem newW_4 {e i j : Nat} : cc4 (nw + 1) (nwK κ nw e) i j = cc4 nw κ i j := by
  by_cases q : i = nw
  · subst q
    have h7 : nwK κ i e 7 i j = -1 := by rw [nwK_7]
    exact Eq.trans (b := (none : Option va_E)) (if_neg (fun z => z.2.2 h7)) (Eq.symm (if_neg (fun z => absurd z.1 (Nat.lt_irrefl i))))
  · exact cg4 (by omega) (by rw [nwK_i q]) (by rw [nwK_i q]) (by rw [nwK_i q])
theorem newW_5 {e i j : Nat} : cc5 (nw + 1) (nwK κ nw e) i j = cc5 nw κ i j := by
  by_cases q : i = nw
  · subst q
    have h10 : nwK κ i e 10 i j = 0 := by rw [nwK_10]
    exact Eq.trans (b := (none : Option va_E)) (if_neg (fun z => absurd (h10.symm.trans z.2.2) (by decide))) (Eq.symm (if_neg (fun z => absurd z.1 (Nat.lt_irrefl i))))
  · exact cg5 (by omega) (by rw [nwK_i q]) (by rw [nwK_i q]) (by rw [nwK_i q]) (by rw [nwK_i q]) (by rw [nwK_i q])
theorem newW_6 {e i j : Nat} {Q : Nat → Nat} (h8 : nw ≤ 8) (h9 : ∀ o, o < no → ∃ w, w < nw ∧ κ 15 o 0 = nI w) : cc6 no (nwK κ nw e) (aW α nw Q) i j = cc6 no κ α i j := by
  unfold cc6
  rw [nwK_k (k := 15) (by decide) (by decide) (by decide) (by decide) (by decide)]
  by_cases z : i < no ∧ j = 0
  · rw [if_pos z, if_pos z]
    obtain ⟨w, hw, hk⟩ := h9 i z.1
    rw [hk, nI_clamp (n := w) (by omega), aW_i (by omega)]
  · rw [if_neg z, if_neg z]
theorem newW_00 {e : Nat} {Q : Nat → Nat} : cc0 y (nw + 1) no nt wk (nwK κ nw e) (aW α nw Q) 0 0 = some (xCell y (nw + 1) no nt wk (κ 0 0 0) α) := by
  refine (if_pos rfl).trans ?_
  refine congrArg some ?_
  unfold xCell
  rw [nwK_k (k := 0) (by decide) (by decide) (by decide) (by decide) (by decide), aW_k (by decide), aW_k (by decide), aW_k (by decide), aW_k (by decide), aW_k (by decide)]
theorem newW_03 {e : Nat} {Q : Nat → Nat} : cc0 y (nw + 1) no nt wk (nwK κ nw e) (aW α nw Q) 0 3 = some (.inl (y 8, 8, .inr (.inr (.inr (.inr (va_up (fun e => if e < nw then some (α 3 e 0) else none) nw (some (Q 0)))))))) := by
  refine (if_pos rfl).trans ?_
  exact congrArg (fun (t : Nat → Option Nat) => (some (.inl (y 8, 8, .inr (.inr (.inr (.inr t))))) : Option va_E)) (row_up (g := fun e => α 3 e 0) (g2 := fun e => aW α nw Q 3 e 0) (fun e he => aW_i (by omega)) aW_s)
theorem newW_0 {e i j : Nat} {Q : Nat → Nat} (h0 : ¬ (i = 0 ∧ j = 0)) (h3 : ¬ (i = 0 ∧ j = 3)) : cc0 y (nw + 1) no nt wk (nwK κ nw e) (aW α nw Q) i j = cc0 y nw no nt wk κ α i j := by
  by_cases q1 : i = 0
  · subst q1
    match j with
    | 0 => exact absurd ⟨rfl, rfl⟩ h0
    | 1 =>
      refine (if_pos rfl).trans (Eq.trans ?_ (if_pos rfl).symm)
      simp only [aW_k (show (1 : Nat) ≠ 3 by decide)]
    | 2 =>
      refine (if_pos rfl).trans (Eq.trans ?_ (if_pos rfl).symm)
      simp only [aW_k (show (2 : Nat) ≠ 3 by decide)]
    | 3 => exact absurd ⟨rfl, rfl⟩ h3
    | 4 =>
      refine (if_pos rfl).trans (Eq.trans ?_ (if_pos rfl).symm)
      simp only [aW_k (show (6 : Nat) ≠ 3 by decide)]
    | 5 =>
      refine (if_pos rfl).trans (Eq.trans ?_ (if_pos rfl).symm)
      simp only [aW_k (show (7 : Nat) ≠ 3 by decide)]
    | jj + 6 => exact Eq.trans (b := (none : Option va_E)) (if_pos rfl) (Eq.symm (if_pos rfl))
  · exact Eq.trans (b := (none : Option va_E)) (if_neg q1) (Eq.symm (if_neg q1))
theorem ce3n {j : Nat} : cellC y nw no nt wk κ α 3 nw j = none := if_neg (Nat.lt_irrefl nw)
def upW (y : Nat → ClassId) (nw e : Nat) (α : Nat → Nat → Nat → Nat) (Q : Nat → Nat) (e1 e2 : va_E) (k i j : Nat) : Option va_E :=
  if k = 3 ∧ i = nw then nwCell y e α Q j else if k = 0 ∧ i = 0 ∧ j = 3 then some e1 else if k = 0 ∧ i = 0 ∧ j = 0 then some e2 else none
theorem upW_n {e k i j : Nat} {Q : Nat → Nat} {e1 e2 : va_E} (h3 : ¬ (k = 3 ∧ i = nw)) (h0 : ¬ (k = 0 ∧ i = 0 ∧ j = 3)) (h1 : ¬ (k = 0 ∧ i = 0 ∧ j = 0)) : upW y nw e α Q e1 e2 k i j = none := by
  unfold upW
  rw [if_neg h3, if_neg h0, if_neg h1]
theorem newW_c {e : Nat} {Q : Nat → Nat} (he : e < 3) (h8 : nw ≤ 8) (h9 : ∀ o, o < no → ∃ w, w < nw ∧ κ 15 o 0 = nI w) (k i j : Nat) : cellC y (nw + 1) no nt wk (nwK κ nw e) (aW α nw Q) k i j = match upW y nw e α Q (.inl (y 8, 8, .inr (.inr (.inr (.inr (va_up (fun e => if e < nw then some (α 3 e 0) else none) nw (some (Q 0)))))))) (xCell y (nw + 1) no nt wk (κ 0 0 0) α) k i j with | some e => some e | none => cellC y nw no nt wk κ α k i j := by
  match k with
  | 0 =>
    by_cases z3 : i = 0 ∧ j = 3
    · obtain ⟨rfl, rfl⟩ := z3
      rw [show upW y nw e α Q (.inl (y 8, 8, .inr (.inr (.inr (.inr (va_up (fun e => if e < nw then some (α 3 e 0) else none) nw (some (Q 0)))))))) (xCell y (nw + 1) no nt wk (κ 0 0 0) α) 0 0 3 = some (.inl (y 8, 8, .inr (.inr (.inr (.inr (va_up (fun e => if e < nw then some (α 3 e 0) else none) nw (some (Q 0)))))))) from by unfold upW; rw [if_neg (by omega), if_pos ⟨rfl, rfl, rfl⟩], ce0]
      exact newW_03
    · by_cases z0 : i = 0 ∧ j = 0
      · obtain ⟨rfl, rfl⟩ := z0
        rw [show upW y nw e α Q (.inl (y 8, 8, .inr (.inr (.inr (.inr (va_up (fun e => if e < nw then some (α 3 e 0) else none) nw (some (Q 0)))))))) (xCell y (nw + 1) no nt wk (κ 0 0 0) α) 0 0 0 = some (xCell y (nw + 1) no nt wk (κ 0 0 0) α) from by unfold upW; rw [if_neg (by omega), if_neg (by omega), if_pos ⟨rfl, rfl, rfl⟩], ce0]
        exact newW_00
      · rw [upW_n (by omega) (by omega) (by omega), ce0, ce0]
        exact newW_0 z0 z3
  | 1 =>
    rw [upW_n (by omega) (by omega) (by omega), ce1, ce1]
    exact cg1 (nwK_k (by decide) (by decide) (by decide) (by decide) (by decide))
  | 2 =>
    rw [upW_n (by omega) (by omega) (by omega), ce2, ce2]
    exact cg2 (nwK_k (by decide) (by decide) (by decide) (by decide) (by decide)) (nwK_k (by decide) (by decide) (by decide) (by decide) (by decide)) (fun _ _ => aW_k (by decide))
  | 3 =>
    by_cases q : i = nw
    · subst q
      rw [show upW y i e α Q (.inl (y 8, 8, .inr (.inr (.inr (.inr (va_up (fun e => if e < i then some (α 3 e 0) else none) i (some (Q 0)))))))) (xCell y (i + 1) no nt wk (κ 0 0 0) α) 3 i j = nwCell y e α Q j from if_pos ⟨rfl, rfl⟩, ce3, newW_3 he j, ce3n]
      cases nwCell y e α Q j <;> rfl
    · rw [upW_n (by omega) (by omega) (by omega), ce3, ce3]
      exact cg3 (by omega) (nwK_i q) (nwK_i q) (nwK_i q) (sh_cg (nwK_i q) (fun _ => aW_k (by decide))) (sl_cg (nwK_i q) (fun _ => aW_k (by decide))) (fun _ => aW_i q) (fun _ => aW_k (by decide))
  | 4 =>
    rw [upW_n (by omega) (by omega) (by omega), ce4, ce4]
    exact newW_4
  | 5 =>
    rw [upW_n (by omega) (by omega) (by omega), ce5, ce5]
    exact newW_5
  | 6 =>
    rw [upW_n (by omega) (by omega) (by omega), ce6, ce6]
    exact newW_6 h8 h9
  | 7 =>
    rw [upW_n (by omega) (by omega) (by omega), ce7, ce7]
    exact cg7 Iff.rfl (by rw [nwK_k (by decide) (by decide) (by decide) (by decide) (by decide)]) (fun _ => aW_k (by decide))
  | kk + 8 =>
    rw [upW_n (by omega) (by omega) (by omega), ce8, ce8]
theorem nwCell_lt {e j : Nat} {Q : Nat → Nat} (h : nwCell y e α Q j ≠ none) : j < 6 := by
  match j with
  | 0 => decide
  | 1 => decide
  | 2 => decide
  | 3 => decide
  | 4 => decide
  | 5 => decide
  | j + 6 => exact absurd rfl h
theorem Rc.newW (h : Rc y nw no nt wk κ α f) {e : Nat} {f1 : fw_F} {Q : Nat → Nat} (he : e < 3) (h8 : nw ≤ 8) (h9 : ∀ o, o < no → ∃ w, w < nw ∧ κ 15 o 0 = nI w)
    (hn : ∀ j, j < 6 → f (Q j) = none) (hd : ∀ i j, i < 6 → j < 6 → Q i = Q j → i = j) (hC : ∀ j x, nwCell y e α Q j = some x → f1 (Q j) = some x) (ho : ∀ b, (∀ j, j < 6 → b ≠ Q j) → f1 b = f b) :
    Rc y (nw + 1) no nt wk (nwK κ nw e) (aW α nw Q) (fw_up (fw_up f1 (α 0 0 3) (.inl (y 8, 8, .inr (.inr (.inr (.inr (va_up (fun e => if e < nw then some (α 3 e 0) else none) nw (some (Q 0))))))))) (α 0 0 0) (xCell y (nw + 1) no nt wk (κ 0 0 0) α)) := by
  have l0 : cellC y nw no nt wk κ α 0 0 0 ≠ none := fun z => nomatch z
  have l3 : cellC y nw no nt wk κ α 0 0 3 ≠ none := fun z => nomatch z
  have live : ∀ {k i j}, cellC y nw no nt wk κ α k i j ≠ none → ∃ e, f (α k i j) = some e := by
    intro k i j z
    cases hz : cellC y nw no nt wk κ α k i j with
    | none => exact absurd hz z
    | some e => exact ⟨e, h.1 k i j e hz⟩
  have nq : ∀ {k i j q}, cellC y nw no nt wk κ α k i j ≠ none → q < 6 → α k i j ≠ Q q := by
    intro k i j q z hq
    obtain ⟨e, he⟩ := live z
    exact fw_ne he (hn q hq)
  have n3 : ∀ {k i j}, cellC y nw no nt wk κ α k i j ≠ none → ¬ (k = 3 ∧ i = nw) := by
    intro k i j z1 z2
    obtain ⟨rfl, rfl⟩ := z2
    exact z1 ce3n
  have n30 : α 0 0 3 ≠ α 0 0 0 := fun t => absurd (h.2 _ _ _ _ _ _ l3 l0 t) (by omega)
  refine h.grow (upW y nw e α Q (.inl (y 8, 8, .inr (.inr (.inr (.inr (va_up (fun e => if e < nw then some (α 3 e 0) else none) nw (some (Q 0)))))))) (xCell y (nw + 1) no nt wk (κ 0 0 0) α)) (newW_c he h8 h9) ?_ ?_ ?_ ?_ ?_
  · intro k i j z
    exact if_neg (n3 z)
  · intro k i j x z
    by_cases z1 : k = 3 ∧ i = nw
    · obtain ⟨rfl, rfl⟩ := z1
      have z2 : nwCell y e α Q j = some x := (if_pos ⟨rfl, rfl⟩).symm.trans z
      have hj : j < 6 := nwCell_lt (by rw [z2]; exact fun q => nomatch q)
      rw [aW_s, fw_up_n (Ne.symm (nq l0 hj)), fw_up_n (Ne.symm (nq l3 hj))]
      exact hC j x z2
    · by_cases z3 : k = 0 ∧ i = 0 ∧ j = 3
      · obtain ⟨rfl, rfl, rfl⟩ := z3
        unfold upW at z
        rw [if_neg (by omega), if_pos ⟨rfl, rfl, rfl⟩] at z
        rw [aW_k (by decide), fw_up_n n30, fw_up_s]
        exact z
      · by_cases z0 : k = 0 ∧ i = 0 ∧ j = 0
        · obtain ⟨rfl, rfl, rfl⟩ := z0
          unfold upW at z
          rw [if_neg (by omega), if_neg (by omega), if_pos ⟨rfl, rfl, rfl⟩] at z
          rw [aW_k (by decide), fw_up_s]
          exact z
        · rw [upW_n z1 z3 z0] at z
          cases z
  · intro k i j z hl
    by_cases z3 : k = 0 ∧ i = 0 ∧ j = 3
    · obtain ⟨rfl, rfl, rfl⟩ := z3
      unfold upW at z
      rw [if_neg (by omega), if_pos ⟨rfl, rfl, rfl⟩] at z
      cases z
    · by_cases z0 : k = 0 ∧ i = 0 ∧ j = 0
      · obtain ⟨rfl, rfl, rfl⟩ := z0
        unfold upW at z
        rw [if_neg (by omega), if_neg (by omega), if_pos ⟨rfl, rfl, rfl⟩] at z
        cases z
      · rw [fw_up_n (fun t => z0 (h.2 _ _ _ _ _ _ hl l0 t)), fw_up_n (fun t => z3 (h.2 _ _ _ _ _ _ hl l3 t))]
        exact ho _ (fun j9 hj9 => nq hl hj9)
  · intro k i j x z hl
    by_cases z1 : k = 3 ∧ i = nw
    · obtain ⟨rfl, rfl⟩ := z1
      have z2 : nwCell y e α Q j = some x := (if_pos ⟨rfl, rfl⟩).symm.trans z
      have hj : j < 6 := nwCell_lt (by rw [z2]; exact fun q => nomatch q)
      rw [aW_s]
      exact hn j hj
    · by_cases z3 : k = 0 ∧ i = 0 ∧ j = 3
      · obtain ⟨rfl, rfl, rfl⟩ := z3
        exact absurd hl l3
      · by_cases z0 : k = 0 ∧ i = 0 ∧ j = 0
        · obtain ⟨rfl, rfl, rfl⟩ := z0
          exact absurd hl l0
        · rw [upW_n z1 z3 z0] at z
          cases z
  · intro k i j k' i' j' a1 a2 b1 b2 hq
    have new : ∀ k i j, upW y nw e α Q (.inl (y 8, 8, .inr (.inr (.inr (.inr (va_up (fun e => if e < nw then some (α 3 e 0) else none) nw (some (Q 0)))))))) (xCell y (nw + 1) no nt wk (κ 0 0 0) α) k i j ≠ none → cellC y nw no nt wk κ α k i j = none → k = 3 ∧ i = nw ∧ j < 6 := by
      intro k i j c1 c2
      by_cases z1 : k = 3 ∧ i = nw
      · obtain ⟨rfl, rfl⟩ := z1
        refine ⟨rfl, rfl, nwCell_lt (y := y) (e := e) (α := α) (Q := Q) (fun q => c1 ((if_pos ⟨rfl, rfl⟩).trans q))⟩
      · by_cases z3 : k = 0 ∧ i = 0 ∧ j = 3
        · obtain ⟨rfl, rfl, rfl⟩ := z3
          exact absurd c2 l3
        · by_cases z0 : k = 0 ∧ i = 0 ∧ j = 0
          · obtain ⟨rfl, rfl, rfl⟩ := z0
            exact absurd c2 l0
          · exact absurd (upW_n z1 z3 z0) c1
    obtain ⟨rfl, rfl, hj⟩ := new k i j a1 a2
    obtain ⟨rfl, t2, hj'⟩ := new k' i' j' b1 b2
    subst t2
    rw [aW_s, aW_s] at hq
    exact ⟨rfl, rfl, hd j j' hj hj' hq⟩
theorem Ic.newW {e : Nat} (h : Ic nw no nt wk κ) (he : e < 3) (h8 : nw < 8) : Ic (nw + 1) no nt wk (nwK κ nw e) := by
  obtain ⟨h1, h2, h3, h4, a5, a6, a7, a8, a9, a10⟩ := h
  refine ⟨by omega, h2, h3, h4, ?_, ?_, ?_, ?_, ?_, ?_⟩
  · intro w hw
    by_cases z : w = nw
    · subst z
      exact ⟨e, he, by rw [nwK_4]; rfl⟩
    · rw [nwK_i z]; exact a5 w (by omega)
  · intro w hw
    by_cases z : w = nw
    · subst z
      exact ⟨0, by omega, by rw [nwK_4]; rfl⟩
    · rw [nwK_i z]; exact a6 w (by omega)
  · intro w hw k hk
    by_cases z : w = nw
    · subst z
      exact Or.inl (by rw [nwK_7])
    · rw [nwK_i z]; exact a7 w (by omega) k hk
  · intro w hw k hk
    by_cases z : w = nw
    · subst z
      refine ⟨0, by omega, ?_⟩
      rw [nwK_5]
      exact if_pos hk
    · rw [nwK_i z]; exact a8 w (by omega) k hk
  · intro o ho
    rw [nwK_k (by decide) (by decide) (by decide) (by decide) (by decide)]
    obtain ⟨w, hw, hk⟩ := a9 o ho
    exact ⟨w, by omega, hk⟩
  · rw [nwK_k (by decide) (by decide) (by decide) (by decide) (by decide)]
    exact a10
end NW
