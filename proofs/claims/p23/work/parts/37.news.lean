section RG3
variable {y : Nat → ClassId} {nw no nt wk : Nat} {κ : cS} {α : Nat → Nat → Nat → Nat} {f : fw_F}
def shK (κ : cS) (w s : Nat) (qv : Nat) (a b cn : Int32) : cS := (upF (upF (upF (upF κ 7 w (va_up (κ 7 w) s (nI qv))) 8 w (va_up (κ 8 w) s a)) 9 w (va_up (κ 9 w) s b)) 4 w (va_up (κ 4 w) 1 cn))
theorem shK_0 {w s qv : Nat} {a b cn : Int32} : shK κ w s qv a b cn 0 = κ 0 := funext fun _ => by unfold shK; rw [upF_k (by decide), upF_k (by decide), upF_k (by decide), upF_k (by decide)]
theorem shK_1 {w s qv : Nat} {a b cn : Int32} : shK κ w s qv a b cn 1 = κ 1 := funext fun _ => by unfold shK; rw [upF_k (by decide), upF_k (by decide), upF_k (by decide), upF_k (by decide)]
theorem shK_2 {w s qv : Nat} {a b cn : Int32} : shK κ w s qv a b cn 2 = κ 2 := funext fun _ => by unfold shK; rw [upF_k (by decide), upF_k (by decide), upF_k (by decide), upF_k (by decide)]
theorem shK_3 {w s qv : Nat} {a b cn : Int32} : shK κ w s qv a b cn 3 = κ 3 := funext fun _ => by unfold shK; rw [upF_k (by decide), upF_k (by decide), upF_k (by decide), upF_k (by decide)]
theorem shK_5 {w s qv : Nat} {a b cn : Int32} : shK κ w s qv a b cn 5 = κ 5 := funext fun _ => by unfold shK; rw [upF_k (by decide), upF_k (by decide), upF_k (by decide), upF_k (by decide)]
theorem shK_6 {w s qv : Nat} {a b cn : Int32} : shK κ w s qv a b cn 6 = κ 6 := funext fun _ => by unfold shK; rw [upF_k (by decide), upF_k (by decide), upF_k (by decide), upF_k (by decide)]
theorem shK_10 {w s qv : Nat} {a b cn : Int32} : shK κ w s qv a b cn 10 = κ 10 := funext fun _ => by unfold shK; rw [upF_k (by decide), upF_k (by decide), upF_k (by decide), upF_k (by decide)]
theorem shK_11 {w s qv : Nat} {a b cn : Int32} : shK κ w s qv a b cn 11 = κ 11 := funext fun _ => by unfold shK; rw [upF_k (by decide), upF_k (by decide), upF_k (by decide), upF_k (by decide)]
theorem shK_12 {w s qv : Nat} {a b cn : Int32} : shK κ w s qv a b cn 12 = κ 12 := funext fun _ => by unfold shK; rw [upF_k (by decide), upF_k (by decide), upF_k (by decide), upF_k (by decide)]
theorem shK_13 {w s qv : Nat} {a b cn : Int32} : shK κ w s qv a b cn 13 = κ 13 := funext fun _ => by unfold shK; rw [upF_k (by decide), upF_k (by decide), upF_k (by decide), upF_k (by decide)]
theorem shK_14 {w s qv : Nat} {a b cn : Int32} : shK κ w s qv a b cn 14 = κ 14 := funext fun _ => by unfold shK; rw [upF_k (by decide), upF_k (by decide), upF_k (by decide), upF_k (by decide)]
theorem shK_15 {w s qv : Nat} {a b cn : Int32} : shK κ w s qv a b cn 15 = κ 15 := funext fun _ => by unfold shK; rw [upF_k (by decide), upF_k (by decide), upF_k (by decide), upF_k (by decide)]
theorem shK_16 {w s qv : Nat} {a b cn : Int32} : shK κ w s qv a b cn 16 = κ 16 := funext fun _ => by unfold shK; rw [upF_k (by decide), upF_k (by decide), upF_k (by decide), upF_k (by decide)]
theorem shK_i {w s qv i K : Nat} {a b cn : Int32} (h : i ≠ w) : shK κ w s qv a b cn K i = κ K i := by unfold shK; rw [upF_i h, upF_i h, upF_i h, upF_i h]
theorem shK_7 {w s qv : Nat} {a b cn : Int32} : shK κ w s qv a b cn 7 w = va_up (κ 7 w) s (nI qv) := by unfold shK; rw [upF_k (by decide), upF_k (by decide), upF_k (by decide), upF_s]
theorem shK_8 {w s qv : Nat} {a b cn : Int32} : shK κ w s qv a b cn 8 w = va_up (κ 8 w) s a := by unfold shK; rw [upF_k (by decide), upF_k (by decide), upF_s]
theorem shK_9 {w s qv : Nat} {a b cn : Int32} : shK κ w s qv a b cn 9 w = va_up (κ 9 w) s b := by unfold shK; rw [upF_k (by decide), upF_s]
theorem shK_4 {w s qv : Nat} {a b cn : Int32} : shK κ w s qv a b cn 4 w = va_up (κ 4 w) 1 cn := by unfold shK; rw [upF_s]
theorem nI_nm1 {q : Nat} (h : q < 2 ^ 31) : ¬ nI q = -1 := by
  intro z
  have e := nI_toInt h
  rw [z, show (-1 : Int32).toInt = -1 by decide +kernel] at e
  omega
theorem newS_w {i s q qv : Nat} {a b cn : Int32} : wkCell (shK κ i s qv a b cn) (aUp α 4 i s q) i = .inr (7, [.ref (α 1 (κ 4 i 0).toNatClampNeg 0), .ref (α 3 i 1), .int cn, .int (κ 4 i 2), .int (κ 4 i 3), .int (κ 4 i 4), .ref (α 3 i 4), .ref (α 3 i 5)]) := by
  have h4 := shK_4 (κ := κ) (w := i) (s := s) (qv := qv) (a := a) (b := b) (cn := cn)
  have h40 : shK κ i s qv a b cn 4 i 0 = κ 4 i 0 := by rw [h4]; exact va_up_n (by decide)
  have h41 : shK κ i s qv a b cn 4 i 1 = cn := by rw [h4]; exact va_up_s
  have h42 : shK κ i s qv a b cn 4 i 2 = κ 4 i 2 := by rw [h4]; exact va_up_n (by decide)
  have h43 : shK κ i s qv a b cn 4 i 3 = κ 4 i 3 := by rw [h4]; exact va_up_n (by decide)
  have h44 : shK κ i s qv a b cn 4 i 4 = κ 4 i 4 := by rw [h4]; exact va_up_n (by decide)
  have a3 : ∀ j, aUp α 4 i s q 3 i j = α 3 i j := fun _ => aUp_k (by decide)
  have a1 : ∀ n, aUp α 4 i s q 1 n 0 = α 1 n 0 := fun _ => aUp_k (by decide)
  unfold wkCell
  rw [h40, h41, h42, h43, h44, a3, a3, a3, a1]
theorem newS_r {i s q qv : Nat} {a b cn : Int32} (hs : s < 20) (hqv : qv < 31) : shRow (shK κ i s qv a b cn) (aUp α 4 i s q) i = va_up (shRow κ α i) s (some q) := by
  funext e
  unfold shRow
  rw [shK_7]
  by_cases z : e = s
  · subst z
    rw [va_up_s, if_pos ⟨hs, nI_nm1 (by omega)⟩, aUp_s]
    exact (if_pos rfl).symm
  · rw [va_up_n z, aUp_n (by omega)]
    exact (if_neg z).symm
theorem newS_4 {i j nw q qv : Nat} {a b cn : Int32} (hw : i < nw) (hs : j < 20) (hqv : qv < 31) : cc4 nw (shK κ i j qv a b cn) i j = some (.inr (4, [.int (nI qv), .int a, .int b])) := by
  have h7 : shK κ i j qv a b cn 7 i j = nI qv := by rw [shK_7]; exact va_up_s
  have h8 : shK κ i j qv a b cn 8 i j = a := by rw [shK_8]; exact va_up_s
  have h9 : shK κ i j qv a b cn 9 i j = b := by rw [shK_9]; exact va_up_s
  unfold cc4
  rw [h7, h8, h9]
  exact if_pos ⟨hw, hs, nI_nm1 (by omega)⟩
theorem newS_30 {i nw s q qv : Nat} {a b cn : Int32} (hw : i < nw) : cc3 y nw (shK κ i s qv a b cn) (aUp α 4 i s q) i 0 = some (.inr (7, [.ref (α 1 (κ 4 i 0).toNatClampNeg 0), .ref (α 3 i 1), .int cn, .int (κ 4 i 2), .int (κ 4 i 3), .int (κ 4 i 4), .ref (α 3 i 4), .ref (α 3 i 5)])) := (if_pos hw).trans (congrArg some newS_w)
theorem newS_31 {i nw s q qv : Nat} {a b cn : Int32} (hw : i < nw) : cc3 y nw (shK κ i s qv a b cn) (aUp α 4 i s q) i 1 = cc3 y nw κ α i 1 := by
  have a3 : ∀ j, aUp α 4 i s q 3 i j = α 3 i j := fun _ => aUp_k (by decide)
  refine (if_pos hw).trans (Eq.trans ?_ (if_pos hw).symm)
  simp only [a3]
theorem newS_32 {i nw s q qv : Nat} {a b cn : Int32} (hw : i < nw) : cc3 y nw (shK κ i s qv a b cn) (aUp α 4 i s q) i 2 = cc3 y nw κ α i 2 := by
  refine (if_pos hw).trans (Eq.trans ?_ (if_pos hw).symm)
  exact congrArg (fun (t : Nat → Int32) => (some (.inl (y 0, 31, .inl t)) : Option va_E)) (by rw [shK_5])
theorem newS_33 {i nw s q qv : Nat} {a b cn : Int32} (hw : i < nw) : cc3 y nw (shK κ i s qv a b cn) (aUp α 4 i s q) i 3 = cc3 y nw κ α i 3 := by
  refine (if_pos hw).trans (Eq.trans ?_ (if_pos hw).symm)
  exact congrArg (fun (t : Nat → Int32) => (some (.inl (y 1, 31, .inl t)) : Option va_E)) (by rw [shK_6])
theorem newS_34 {i nw s q qv : Nat} {a b cn : Int32} (hw : i < nw) (hs : s < 20) (hqv : qv < 31) : cc3 y nw (shK κ i s qv a b cn) (aUp α 4 i s q) i 4 = some (.inl (y 5, 20, .inr (.inr (.inr (.inr (va_up (shRow κ α i) s (some q))))))) := (if_pos hw).trans (congrArg (fun (t : Nat → Option Nat) => (some (.inl (y 5, 20, .inr (.inr (.inr (.inr t))))) : Option va_E)) (newS_r hs hqv))
theorem newS_35 {i nw s q qv : Nat} {a b cn : Int32} (hw : i < nw) : cc3 y nw (shK κ i s qv a b cn) (aUp α 4 i s q) i 5 = cc3 y nw κ α i 5 := by
  refine (if_pos hw).trans (Eq.trans ?_ (if_pos hw).symm)
  exact congrArg (fun (t : Nat → Option Nat) => (some (.inl (y 6, 31, .inr (.inr (.inr (.inr t))))) : Option va_E)) (sl_cg (by rw [shK_10]) (fun _ => aUp_k (by decide)))
theorem newS_36 {i j nw s q qv : Nat} {a b cn : Int32} (hw : i < nw) : cc3 y nw (shK κ i s qv a b cn) (aUp α 4 i s q) i (j + 6) = cc3 y nw κ α i (j + 6) := Eq.trans (b := (none : Option va_E)) (if_pos hw) (Eq.symm (if_pos hw))
theorem newS_0 {i j w nw no nt wk s q qv : Nat} {a b cn : Int32} : cc0 y nw no nt wk (shK κ w s qv a b cn) (aUp α 4 w s q) i j = cc0 y nw no nt wk κ α i j := by
  unfold cc0 xCell
  simp only [shK_0, aUp_k (show (0 : Nat) ≠ 4 by decide), aUp_k (show (1 : Nat) ≠ 4 by decide), aUp_k (show (2 : Nat) ≠ 4 by decide), aUp_k (show (3 : Nat) ≠ 4 by decide), aUp_k (show (6 : Nat) ≠ 4 by decide), aUp_k (show (7 : Nat) ≠ 4 by decide)]
theorem Rc.newS (h : Rc y nw no nt wk κ α f) {w s q qv : Nat} (hw : w < nw) (hs : s < 20) (hx : κ 7 w s = -1) (hqv : qv < 31) (a b cn : Int32) (hq : f q = none) : Rc y nw no nt wk (shK κ w s qv a b cn) (aUp α 4 w s q)
    (fw_up (fw_up (fw_up f q (.inr (4, [.int (nI qv), .int a, .int b]))) (α 3 w 4) (.inl (y 5, 20, .inr (.inr (.inr (.inr (va_up (shRow κ α w) s (some q)))))))) (α 3 w 0) (.inr (7, [.ref (α 1 (κ 4 w 0).toNatClampNeg 0), .ref (α 3 w 1), .int cn, .int (κ 4 w 2), .int (κ 4 w 3), .int (κ 4 w 4), .ref (α 3 w 4), .ref (α 3 w 5)]))) := by
  have l0 : cellC y nw no nt wk κ α 3 w 0 ≠ none := by rw [show cellC y nw no nt wk κ α 3 w 0 = some _ from if_pos hw]; exact fun z => nomatch z
  have l4 : cellC y nw no nt wk κ α 3 w 4 ≠ none := by rw [show cellC y nw no nt wk κ α 3 w 4 = some _ from if_pos hw]; exact fun z => nomatch z
  refine h.grow1 (K := 4) (I := w) (J := s) (k1 := 3) (i1 := w) (j1 := 4) (k2 := 3) (i2 := w) (j2 := 0) hq (if_neg (fun z => z.2.2 hx)) l4 l0 (by omega) (fun k i j => ?_)
  match k with
  | 0 =>
    rw [if_neg (by omega), if_neg (by omega), if_neg (by omega), ce0, ce0]
    exact newS_0
  | 1 =>
    rw [if_neg (by omega), if_neg (by omega), if_neg (by omega), ce1, ce1]
    exact cg1 shK_1
  | 2 =>
    rw [if_neg (by omega), if_neg (by omega), if_neg (by omega), ce2, ce2]
    exact cg2 shK_2 shK_3 (fun _ _ => aUp_k (by decide))
  | 3 =>
    rw [if_neg (by omega), ce3, ce3]
    by_cases q1 : i = w
    · subst q1
      match j with
      | 0 =>
        rw [if_neg (by omega), if_pos ⟨rfl, rfl, rfl⟩]
        exact newS_30 hw
      | 1 =>
        rw [if_neg (by omega), if_neg (by omega)]
        exact newS_31 hw
      | 2 =>
        rw [if_neg (by omega), if_neg (by omega)]
        exact newS_32 hw
      | 3 =>
        rw [if_neg (by omega), if_neg (by omega)]
        exact newS_33 hw
      | 4 =>
        rw [if_pos ⟨rfl, rfl, rfl⟩]
        exact newS_34 hw hs hqv
      | 5 =>
        rw [if_neg (by omega), if_neg (by omega)]
        exact newS_35 hw
      | jj + 6 =>
        rw [if_neg (by omega), if_neg (by omega)]
        exact newS_36 hw
    · rw [if_neg (fun z => q1 z.2.1), if_neg (fun z => q1 z.2.1)]
      exact cg3 Iff.rfl (shK_i q1) (shK_i q1) (shK_i q1) (sh_cg (shK_i q1) (fun _ => aUp_n (by omega))) (sl_cg (shK_i q1) (fun _ => aUp_k (by decide))) (fun _ => aUp_k (by decide)) (fun _ => aUp_k (by decide))
  | 4 =>
    by_cases q1 : i = w ∧ j = s
    · obtain ⟨rfl, rfl⟩ := q1
      rw [if_pos ⟨rfl, rfl, rfl⟩, ce4]
      exact newS_4 (q := q) hw hs hqv
    · rw [if_neg (fun z => q1 z.2), if_neg (by omega), if_neg (by omega), ce4, ce4]
      by_cases q2 : i = w
      · have q3 : j ≠ s := fun z => q1 ⟨q2, z⟩
        subst q2
        exact cg4 Iff.rfl (by rw [shK_7, va_up_n q3]) (by rw [shK_8, va_up_n q3]) (by rw [shK_9, va_up_n q3])
      · exact cg4 Iff.rfl (by rw [shK_i q2]) (by rw [shK_i q2]) (by rw [shK_i q2])
  | 5 =>
    rw [if_neg (by omega), if_neg (by omega), if_neg (by omega), ce5, ce5]
    exact cg5 Iff.rfl (by rw [shK_10]) (by rw [shK_11]) (by rw [shK_12]) (by rw [shK_13]) (by rw [shK_14])
  | 6 =>
    rw [if_neg (by omega), if_neg (by omega), if_neg (by omega), ce6, ce6]
    exact cg6 Iff.rfl (by rw [shK_15]) (fun _ => aUp_k (by decide))
  | 7 =>
    rw [if_neg (by omega), if_neg (by omega), if_neg (by omega), ce7, ce7]
    exact cg7 Iff.rfl (by rw [shK_16]) (fun _ => aUp_k (by decide))
  | kk + 8 =>
    rw [if_neg (by omega), if_neg (by omega), if_neg (by omega), ce8, ce8]
def slK (κ : cS) (w k : Nat) (g0 g1 g2 g3 : Int32) : cS := (upF (upF (upF (upF (upF κ 10 w (va_up (κ 10 w) k 1)) 11 w (va_up (κ 11 w) k g0)) 12 w (va_up (κ 12 w) k g1)) 13 w (va_up (κ 13 w) k g2)) 14 w (va_up (κ 14 w) k g3))
theorem slK_0 {w k : Nat} {g0 g1 g2 g3 : Int32} : slK κ w k g0 g1 g2 g3 0 = κ 0 := funext fun _ => by unfold slK; rw [upF_k (by decide), upF_k (by decide), upF_k (by decide), upF_k (by decide), upF_k (by decide)]
theorem slK_1 {w k : Nat} {g0 g1 g2 g3 : Int32} : slK κ w k g0 g1 g2 g3 1 = κ 1 := funext fun _ => by unfold slK; rw [upF_k (by decide), upF_k (by decide), upF_k (by decide), upF_k (by decide), upF_k (by decide)]
theorem slK_2 {w k : Nat} {g0 g1 g2 g3 : Int32} : slK κ w k g0 g1 g2 g3 2 = κ 2 := funext fun _ => by unfold slK; rw [upF_k (by decide), upF_k (by decide), upF_k (by decide), upF_k (by decide), upF_k (by decide)]
theorem slK_3 {w k : Nat} {g0 g1 g2 g3 : Int32} : slK κ w k g0 g1 g2 g3 3 = κ 3 := funext fun _ => by unfold slK; rw [upF_k (by decide), upF_k (by decide), upF_k (by decide), upF_k (by decide), upF_k (by decide)]
theorem slK_4 {w k : Nat} {g0 g1 g2 g3 : Int32} : slK κ w k g0 g1 g2 g3 4 = κ 4 := funext fun _ => by unfold slK; rw [upF_k (by decide), upF_k (by decide), upF_k (by decide), upF_k (by decide), upF_k (by decide)]
theorem slK_5 {w k : Nat} {g0 g1 g2 g3 : Int32} : slK κ w k g0 g1 g2 g3 5 = κ 5 := funext fun _ => by unfold slK; rw [upF_k (by decide), upF_k (by decide), upF_k (by decide), upF_k (by decide), upF_k (by decide)]
theorem slK_6 {w k : Nat} {g0 g1 g2 g3 : Int32} : slK κ w k g0 g1 g2 g3 6 = κ 6 := funext fun _ => by unfold slK; rw [upF_k (by decide), upF_k (by decide), upF_k (by decide), upF_k (by decide), upF_k (by decide)]
theorem slK_7 {w k : Nat} {g0 g1 g2 g3 : Int32} : slK κ w k g0 g1 g2 g3 7 = κ 7 := funext fun _ => by unfold slK; rw [upF_k (by decide), upF_k (by decide), upF_k (by decide), upF_k (by decide), upF_k (by decide)]
theorem slK_8 {w k : Nat} {g0 g1 g2 g3 : Int32} : slK κ w k g0 g1 g2 g3 8 = κ 8 := funext fun _ => by unfold slK; rw [upF_k (by decide), upF_k (by decide), upF_k (by decide), upF_k (by decide), upF_k (by decide)]
theorem slK_9 {w k : Nat} {g0 g1 g2 g3 : Int32} : slK κ w k g0 g1 g2 g3 9 = κ 9 := funext fun _ => by unfold slK; rw [upF_k (by decide), upF_k (by decide), upF_k (by decide), upF_k (by decide), upF_k (by decide)]
theorem slK_15 {w k : Nat} {g0 g1 g2 g3 : Int32} : slK κ w k g0 g1 g2 g3 15 = κ 15 := funext fun _ => by unfold slK; rw [upF_k (by decide), upF_k (by decide), upF_k (by decide), upF_k (by decide), upF_k (by decide)]
theorem slK_16 {w k : Nat} {g0 g1 g2 g3 : Int32} : slK κ w k g0 g1 g2 g3 16 = κ 16 := funext fun _ => by unfold slK; rw [upF_k (by decide), upF_k (by decide), upF_k (by decide), upF_k (by decide), upF_k (by decide)]
theorem slK_i {w k i K : Nat} {g0 g1 g2 g3 : Int32} (h : i ≠ w) : slK κ w k g0 g1 g2 g3 K i = κ K i := by unfold slK; rw [upF_i h, upF_i h, upF_i h, upF_i h, upF_i h]
theorem slK_10 {w k : Nat} {g0 g1 g2 g3 : Int32} : slK κ w k g0 g1 g2 g3 10 w = va_up (κ 10 w) k 1 := by unfold slK; rw [upF_k (by decide), upF_k (by decide), upF_k (by decide), upF_k (by decide), upF_s]
theorem slK_11 {w k : Nat} {g0 g1 g2 g3 : Int32} : slK κ w k g0 g1 g2 g3 11 w = va_up (κ 11 w) k g0 := by unfold slK; rw [upF_k (by decide), upF_k (by decide), upF_k (by decide), upF_s]
theorem slK_12 {w k : Nat} {g0 g1 g2 g3 : Int32} : slK κ w k g0 g1 g2 g3 12 w = va_up (κ 12 w) k g1 := by unfold slK; rw [upF_k (by decide), upF_k (by decide), upF_s]
theorem slK_13 {w k : Nat} {g0 g1 g2 g3 : Int32} : slK κ w k g0 g1 g2 g3 13 w = va_up (κ 13 w) k g2 := by unfold slK; rw [upF_k (by decide), upF_s]
theorem slK_14 {w k : Nat} {g0 g1 g2 g3 : Int32} : slK κ w k g0 g1 g2 g3 14 w = va_up (κ 14 w) k g3 := by unfold slK; rw [upF_s]
theorem Rc.newL (h : Rc y nw no nt wk κ α f) {w k q : Nat} (hw : w < nw) (hk : k < 31) (hx : ¬ κ 10 w k = 1) (g0 g1 g2 g3 : Int32) (hq : f q = none) : Rc y nw no nt wk (slK κ w k g0 g1 g2 g3) (aUp α 5 w k q)
    (fw_up (fw_up f q (.inr (5, [.int g0, .int g1, .int g2, .int g3]))) (α 3 w 5) (.inl (y 6, 31, .inr (.inr (.inr (.inr (va_up (slRow κ α w) k (some q)))))))) := by
  have l5 : cellC y nw no nt wk κ α 3 w 5 ≠ none := by rw [show cellC y nw no nt wk κ α 3 w 5 = some _ from if_pos hw]; exact fun z => nomatch z
  have e0 : (fw_up (fw_up f q (.inr (5, [.int g0, .int g1, .int g2, .int g3]))) (α 3 w 5) (.inl (y 6, 31, .inr (.inr (.inr (.inr (va_up (slRow κ α w) k (some q)))))))) (α 0 0 0) = some (xCell y nw no nt wk (κ 0 0 0) α) := by
    rw [fw_up_n (h.ne (k := 0) (i := 0) (j := 0) (k' := 3) (i' := w) (j' := 5) rfl (if_pos hw) (by omega)), fw_up_n (fw_ne h.x hq)]
    exact h.x
  rw [← fw_up_id e0]
  refine h.grow1 (K := 5) (I := w) (J := k) (k1 := 3) (i1 := w) (j1 := 5) (k2 := 0) (i2 := 0) (j2 := 0) hq (if_neg (fun z => hx z.2.2)) l5 (fun z => nomatch z) (by omega) (fun k9 i j => ?_)
  match k9 with
  | 0 =>
    rw [if_neg (by omega), if_neg (by omega), ce0, ce0]
    have e1 : cc0 y nw no nt wk (slK κ w k g0 g1 g2 g3) (aUp α 5 w k q) i j = cc0 y nw no nt wk κ α i j := by
      unfold cc0 xCell
      simp only [slK_0, aUp_k (show (0 : Nat) ≠ 5 by decide), aUp_k (show (1 : Nat) ≠ 5 by decide), aUp_k (show (2 : Nat) ≠ 5 by decide), aUp_k (show (3 : Nat) ≠ 5 by decide), aUp_k (show (6 : Nat) ≠ 5 by decide), aUp_k (show (7 : Nat) ≠ 5 by decide)]
    rw [e1]
    by_cases z : 0 = 0 ∧ i = 0 ∧ j = 0
    · rw [if_pos z]
      obtain ⟨-, rfl, rfl⟩ := z
      exact if_pos rfl
    · rw [if_neg z]
  | 1 =>
    rw [if_neg (by omega), if_neg (by omega), if_neg (by omega), ce1, ce1]
    exact cg1 slK_1
  | 2 =>
    rw [if_neg (by omega), if_neg (by omega), if_neg (by omega), ce2, ce2]
    exact cg2 slK_2 slK_3 (fun _ _ => aUp_k (by decide))
  | 3 =>
    rw [if_neg (by omega), ce3, ce3]
    by_cases q1 : i = w
    · subst q1
      have a3 : ∀ j, aUp α 5 i k q 3 i j = α 3 i j := fun _ => aUp_k (by decide)
      match j with
      | 0 =>
        rw [if_neg (by omega), if_neg (by omega)]
        refine (if_pos hw).trans (Eq.trans ?_ (if_pos hw).symm)
        simp only [wkCell, slK_4, a3, aUp_k (show (1 : Nat) ≠ 5 by decide)]
      | 1 =>
        rw [if_neg (by omega), if_neg (by omega)]
        refine (if_pos hw).trans (Eq.trans ?_ (if_pos hw).symm)
        simp only [a3]
      | 2 =>
        rw [if_neg (by omega), if_neg (by omega)]
        refine (if_pos hw).trans (Eq.trans ?_ (if_pos hw).symm)
        simp only [slK_5]
      | 3 =>
        rw [if_neg (by omega), if_neg (by omega)]
        refine (if_pos hw).trans (Eq.trans ?_ (if_pos hw).symm)
        simp only [slK_6]
      | 4 =>
        rw [if_neg (by omega), if_neg (by omega)]
        refine (if_pos hw).trans (Eq.trans ?_ (if_pos hw).symm)
        exact congrArg (fun (t : Nat → Option Nat) => (some (.inl (y 5, 20, .inr (.inr (.inr (.inr t))))) : Option va_E)) (sh_cg (by rw [slK_7]) (fun _ => aUp_k (by decide)))
      | 5 =>
        rw [if_pos ⟨rfl, rfl, rfl⟩]
        refine (if_pos hw).trans ?_
        refine congrArg (fun (t : Nat → Option Nat) => (some (.inl (y 6, 31, .inr (.inr (.inr (.inr t))))) : Option va_E)) (funext fun e => ?_)
        unfold slRow
        rw [slK_10]
        by_cases z : e = k
        · subst z
          rw [va_up_s, if_pos ⟨hk, rfl⟩, aUp_s]
          exact (if_pos rfl).symm
        · rw [va_up_n z, aUp_n (by omega)]
          exact (if_neg z).symm
      | jj + 6 =>
        rw [if_neg (by omega), if_neg (by omega)]
        exact (if_pos hw).trans (if_pos hw).symm
    · rw [if_neg (fun z => q1 z.2.1), if_neg (by omega)]
      exact cg3 Iff.rfl (slK_i q1) (slK_i q1) (slK_i q1) (sh_cg (slK_i q1) (fun _ => aUp_k (by decide))) (sl_cg (slK_i q1) (fun _ => aUp_n (by omega))) (fun _ => aUp_k (by decide)) (fun _ => aUp_k (by decide))
  | 4 =>
    rw [if_neg (by omega), if_neg (by omega), if_neg (by omega), ce4, ce4]
    exact cg4 Iff.rfl (by rw [slK_7]) (by rw [slK_8]) (by rw [slK_9])
  | 5 =>
    by_cases q1 : i = w ∧ j = k
    · obtain ⟨rfl, rfl⟩ := q1
      rw [if_pos ⟨rfl, rfl, rfl⟩, ce5]
      unfold cc5
      rw [slK_10, slK_11, slK_12, slK_13, slK_14, va_up_s, va_up_s, va_up_s, va_up_s, va_up_s]
      exact if_pos ⟨hw, hk, rfl⟩
    · rw [if_neg (fun z => q1 z.2), if_neg (by omega), if_neg (by omega), ce5, ce5]
      by_cases q2 : i = w
      · have q3 : j ≠ k := fun z => q1 ⟨q2, z⟩
        subst q2
        exact cg5 Iff.rfl (by rw [slK_10, va_up_n q3]) (by rw [slK_11, va_up_n q3]) (by rw [slK_12, va_up_n q3]) (by rw [slK_13, va_up_n q3]) (by rw [slK_14, va_up_n q3])
      · exact cg5 Iff.rfl (by rw [slK_i q2]) (by rw [slK_i q2]) (by rw [slK_i q2]) (by rw [slK_i q2]) (by rw [slK_i q2])
  | 6 =>
    rw [if_neg (by omega), if_neg (by omega), if_neg (by omega), ce6, ce6]
    exact cg6 Iff.rfl (by rw [slK_15]) (fun _ => aUp_k (by decide))
  | 7 =>
    rw [if_neg (by omega), if_neg (by omega), if_neg (by omega), ce7, ce7]
    exact cg7 Iff.rfl (by rw [slK_16]) (fun _ => aUp_k (by decide))
  | kk + 8 =>
    rw [if_neg (by omega), if_neg (by omega), if_neg (by omega), ce8, ce8]
end RG3
