section RG2
variable {y : Nat → ClassId} {nw no nt wk : Nat} {κ : cS} {α : Nat → Nat → Nat → Nat} {f : fw_F}
theorem Rc.newO (h : Rc y nw no nt wk κ α f) {w q : Nat} (hw : w < 100000) (g a p : Int32) (hq : f q = none) : Rc y nw (no + 1) nt wk (upF κ 15 no (orow w g a p)) (aUp α 6 no 0 q)
    (fw_up (fw_up (fw_up f q (.inr (0, [.ref (α 3 w 0), .int g, .int a, .int p]))) (α 0 0 4) (.inl (y 2, 20, .inr (.inr (.inr (.inr (va_up (fun e => if e < no then some (α 6 e 0) else none) no (some q)))))))) (α 0 0 0) (xCell y nw (no + 1) nt wk (κ 0 0 0) α)) := by
  refine h.grow1 (K := 6) (I := no) (J := 0) (k1 := 0) (i1 := 0) (j1 := 4) (k2 := 0) (i2 := 0) (j2 := 0) hq (if_neg (by omega)) (fun z => nomatch z) (fun z => nomatch z) (by omega) (fun k i j => ?_)
  match k with
  | 0 =>
    rw [if_neg (by omega), ce0, ce0]
    by_cases q1 : i = 0
    · subst q1
      match j with
      | 0 =>
        rw [if_neg (by omega), if_pos ⟨rfl, rfl, rfl⟩]
        refine (if_pos rfl).trans ?_
        show (some (xCell y nw (no + 1) nt wk (upF κ 15 no (orow w g a p) 0 0 0) (aUp α 6 no 0 q)) : Option va_E) = _
        unfold xCell
        rw [upF_k (by decide), aUp_k (by decide), aUp_k (by decide), aUp_k (by decide), aUp_k (by decide), aUp_k (by decide)]
      | 1 =>
        rw [if_neg (by omega), if_neg (by omega)]
        refine (if_pos rfl).trans (Eq.trans ?_ (if_pos rfl).symm)
        simp only [aUp_k (show (1 : Nat) ≠ 6 by decide)]
      | 2 =>
        rw [if_neg (by omega), if_neg (by omega)]
        refine (if_pos rfl).trans (Eq.trans ?_ (if_pos rfl).symm)
        simp only [aUp_k (show (2 : Nat) ≠ 6 by decide)]
      | 3 =>
        rw [if_neg (by omega), if_neg (by omega)]
        refine (if_pos rfl).trans (Eq.trans ?_ (if_pos rfl).symm)
        simp only [aUp_k (show (3 : Nat) ≠ 6 by decide)]
      | 4 =>
        rw [if_pos ⟨rfl, rfl, rfl⟩]
        refine (if_pos rfl).trans ?_
        exact congrArg (fun (t : Nat → Option Nat) => (some (.inl (y 2, 20, .inr (.inr (.inr (.inr t))))) : Option va_E)) (row_up (g := fun e => α 6 e 0) (g2 := fun e => aUp α 6 no 0 q 6 e 0) (fun e he => aUp_n (by omega)) aUp_s)
      | 5 =>
        rw [if_neg (by omega), if_neg (by omega)]
        refine (if_pos rfl).trans (Eq.trans ?_ (if_pos rfl).symm)
        simp only [aUp_k (show (7 : Nat) ≠ 6 by decide)]
      | jj + 6 =>
        rw [if_neg (by omega), if_neg (by omega)]
        rfl
    · rw [if_neg (fun z => q1 z.2.1), if_neg (fun z => q1 z.2.1)]
      exact (if_neg q1).trans (if_neg q1).symm
  | 1 =>
    rw [if_neg (by omega), if_neg (by omega), if_neg (by omega), ce1, ce1]
    exact cg1 (funext fun _ => upF_k (by decide))
  | 2 =>
    rw [if_neg (by omega), if_neg (by omega), if_neg (by omega), ce2, ce2]
    exact cg2 (funext fun _ => upF_k (by decide)) (funext fun _ => upF_k (by decide)) (fun _ _ => aUp_k (by decide))
  | 3 =>
    rw [if_neg (by omega), if_neg (by omega), if_neg (by omega), ce3, ce3]
    exact cg3 Iff.rfl (upF_k (by decide)) (upF_k (by decide)) (upF_k (by decide)) (sh_cg (upF_k (by decide)) (fun _ => aUp_k (by decide))) (sl_cg (upF_k (by decide)) (fun _ => aUp_k (by decide))) (fun _ => aUp_k (by decide)) (fun _ => aUp_k (by decide))
  | 4 =>
    rw [if_neg (by omega), if_neg (by omega), if_neg (by omega), ce4, ce4]
    exact cg4 Iff.rfl (by rw [upF_k (by decide)]) (by rw [upF_k (by decide)]) (by rw [upF_k (by decide)])
  | 5 =>
    rw [if_neg (by omega), if_neg (by omega), if_neg (by omega), ce5, ce5]
    exact cg5 Iff.rfl (by rw [upF_k (by decide)]) (by rw [upF_k (by decide)]) (by rw [upF_k (by decide)]) (by rw [upF_k (by decide)]) (by rw [upF_k (by decide)])
  | 6 =>
    by_cases q1 : i = no ∧ j = 0
    · obtain ⟨rfl, rfl⟩ := q1
      rw [if_pos ⟨rfl, rfl, rfl⟩, ce6]
      refine (if_pos ⟨Nat.lt_succ_self _, rfl⟩).trans ?_
      rw [upF_s]
      show (some (.inr (0, [.ref (aUp α 6 i 0 q 3 (nI w).toNatClampNeg 0), .int g, .int a, .int p])) : Option va_E) = _
      rw [nI_clamp (by omega), aUp_k (by decide)]
    · rw [if_neg (fun z => q1 z.2), if_neg (by omega), if_neg (by omega), ce6, ce6]
      by_cases q2 : i = no
      · exact (if_neg (fun z => q1 ⟨q2, z.2⟩)).trans (if_neg (fun z => q1 ⟨q2, z.2⟩)).symm
      · exact cg6 (by omega) (upF_i q2) (fun _ => aUp_k (by decide))
  | 7 =>
    rw [if_neg (by omega), if_neg (by omega), if_neg (by omega), ce7, ce7]
    exact cg7 Iff.rfl (upF_k (by decide)) (fun _ => aUp_k (by decide))
  | kk + 8 =>
    rw [if_neg (by omega), if_neg (by omega), if_neg (by omega), ce8, ce8]
theorem Rc.newT (h : Rc y nw no nt wk κ α f) {w q : Nat} (hw : w < 100000) (a : Int32) (hq : f q = none) : Rc y nw no (nt + 1) wk (upF κ 16 nt (orow w a 0 0)) (aUp α 7 nt 0 q)
    (fw_up (fw_up (fw_up f q (.inr (6, [.ref (α 1 w 0), .int a, .int 0]))) (α 0 0 5) (.inl (y 7, 40, .inr (.inr (.inr (.inr (va_up (fun e => if e < nt then some (α 7 e 0) else none) nt (some q)))))))) (α 0 0 0) (xCell y nw no (nt + 1) wk (κ 0 0 0) α)) := by
  refine h.grow1 (K := 7) (I := nt) (J := 0) (k1 := 0) (i1 := 0) (j1 := 5) (k2 := 0) (i2 := 0) (j2 := 0) hq (if_neg (by omega)) (fun z => nomatch z) (fun z => nomatch z) (by omega) (fun k i j => ?_)
  match k with
  | 0 =>
    rw [if_neg (by omega), ce0, ce0]
    by_cases q1 : i = 0
    · subst q1
      match j with
      | 0 =>
        rw [if_neg (by omega), if_pos ⟨rfl, rfl, rfl⟩]
        refine (if_pos rfl).trans ?_
        show (some (xCell y nw no (nt + 1) wk (upF κ 16 nt (orow w a 0 0) 0 0 0) (aUp α 7 nt 0 q)) : Option va_E) = _
        unfold xCell
        rw [upF_k (by decide), aUp_k (by decide), aUp_k (by decide), aUp_k (by decide), aUp_k (by decide), aUp_k (by decide)]
      | 1 =>
        rw [if_neg (by omega), if_neg (by omega)]
        refine (if_pos rfl).trans (Eq.trans ?_ (if_pos rfl).symm)
        simp only [aUp_k (show (1 : Nat) ≠ 7 by decide)]
      | 2 =>
        rw [if_neg (by omega), if_neg (by omega)]
        refine (if_pos rfl).trans (Eq.trans ?_ (if_pos rfl).symm)
        simp only [aUp_k (show (2 : Nat) ≠ 7 by decide)]
      | 3 =>
        rw [if_neg (by omega), if_neg (by omega)]
        refine (if_pos rfl).trans (Eq.trans ?_ (if_pos rfl).symm)
        simp only [aUp_k (show (3 : Nat) ≠ 7 by decide)]
      | 4 =>
        rw [if_neg (by omega), if_neg (by omega)]
        refine (if_pos rfl).trans (Eq.trans ?_ (if_pos rfl).symm)
        simp only [aUp_k (show (6 : Nat) ≠ 7 by decide)]
      | 5 =>
        rw [if_pos ⟨rfl, rfl, rfl⟩]
        refine (if_pos rfl).trans ?_
        exact congrArg (fun (t : Nat → Option Nat) => (some (.inl (y 7, 40, .inr (.inr (.inr (.inr t))))) : Option va_E)) (row_up (g := fun e => α 7 e 0) (g2 := fun e => aUp α 7 nt 0 q 7 e 0) (fun e he => aUp_n (by omega)) aUp_s)
      | jj + 6 =>
        rw [if_neg (by omega), if_neg (by omega)]
        rfl
    · rw [if_neg (fun z => q1 z.2.1), if_neg (fun z => q1 z.2.1)]
      exact (if_neg q1).trans (if_neg q1).symm
  | 1 =>
    rw [if_neg (by omega), if_neg (by omega), if_neg (by omega), ce1, ce1]
    exact cg1 (funext fun _ => upF_k (by decide))
  | 2 =>
    rw [if_neg (by omega), if_neg (by omega), if_neg (by omega), ce2, ce2]
    exact cg2 (funext fun _ => upF_k (by decide)) (funext fun _ => upF_k (by decide)) (fun _ _ => aUp_k (by decide))
  | 3 =>
    rw [if_neg (by omega), if_neg (by omega), if_neg (by omega), ce3, ce3]
    exact cg3 Iff.rfl (upF_k (by decide)) (upF_k (by decide)) (upF_k (by decide)) (sh_cg (upF_k (by decide)) (fun _ => aUp_k (by decide))) (sl_cg (upF_k (by decide)) (fun _ => aUp_k (by decide))) (fun _ => aUp_k (by decide)) (fun _ => aUp_k (by decide))
  | 4 =>
    rw [if_neg (by omega), if_neg (by omega), if_neg (by omega), ce4, ce4]
    exact cg4 Iff.rfl (by rw [upF_k (by decide)]) (by rw [upF_k (by decide)]) (by rw [upF_k (by decide)])
  | 5 =>
    rw [if_neg (by omega), if_neg (by omega), if_neg (by omega), ce5, ce5]
    exact cg5 Iff.rfl (by rw [upF_k (by decide)]) (by rw [upF_k (by decide)]) (by rw [upF_k (by decide)]) (by rw [upF_k (by decide)]) (by rw [upF_k (by decide)])
  | 6 =>
    rw [if_neg (by omega), if_neg (by omega), if_neg (by omega), ce6, ce6]
    exact cg6 Iff.rfl (upF_k (by decide)) (fun _ => aUp_k (by decide))
  | 7 =>
    by_cases q1 : i = nt ∧ j = 0
    · obtain ⟨rfl, rfl⟩ := q1
      rw [if_pos ⟨rfl, rfl, rfl⟩, ce7]
      refine (if_pos ⟨Nat.lt_succ_self _, rfl⟩).trans ?_
      rw [upF_s]
      show (some (.inr (6, [.ref (aUp α 7 i 0 q 1 (nI w).toNatClampNeg 0), .int a, .int 0])) : Option va_E) = _
      rw [nI_clamp (by omega), aUp_k (by decide)]
    · rw [if_neg (fun z => q1 z.2), if_neg (by omega), if_neg (by omega), ce7, ce7]
      by_cases q2 : i = nt
      · exact (if_neg (fun z => q1 ⟨q2, z.2⟩)).trans (if_neg (fun z => q1 ⟨q2, z.2⟩)).symm
      · exact cg7 (by omega) (upF_i q2) (fun _ => aUp_k (by decide))
  | kk + 8 =>
    rw [if_neg (by omega), if_neg (by omega), if_neg (by omega), ce8, ce8]
end RG2
