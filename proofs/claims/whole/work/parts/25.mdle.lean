def mPos (k : Nat) : Nat := match k with
  | 0 => 0
  | 3 => 1
  | 4 => 2
  | 5 => 3
  | 6 => 4
  | 7 => 5
  | 8 => 6
  | 9 => 7
  | 10 => 8
  | 11 => 9
  | 12 => 10
  | 14 => 11
  | 15 => 12
  | 16 => 13
  | 17 => 14
  | 19 => 15
  | 20 => 16
  | 22 => 17
  | 23 => 18
  | 24 => 19
  | _ => 0
theorem mPos_in : ∀ i ∈ 0 :: mK, mPos i < 20 := by decide +kernel
theorem mPos_inj : ∀ i ∈ 0 :: mK, ∀ j ∈ 0 :: mK, mPos i = mPos j → i = j := by decide +kernel
theorem mB_inj {L : List Nat} (hl : L.length = 20) (hnd : L.Nodup) : ∀ i ∈ 0 :: mK, ∀ j ∈ 0 :: mK, L.getD (mPos i) 0 = L.getD (mPos j) 0 → i = j := by
  intro i hi j hj h
  have h1 := mPos_in i hi
  have h2 := mPos_in j hj
  refine mPos_inj i hi j hj ?_
  rw [List.getD_eq_getElem?_getD, List.getD_eq_getElem?_getD, List.getElem?_eq_getElem (by omega), List.getElem?_eq_getElem (by omega)] at h
  have h3 : L[mPos i]'(by omega) = L[mPos j]'(by omega) := h
  have hp := List.pairwise_iff_getElem.mp hnd
  rcases Nat.lt_trichotomy (mPos i) (mPos j) with q | q | q
  · exact absurd h3 (hp _ _ (by omega) (by omega) q)
  · exact q
  · exact absurd h3.symm (hp _ _ (by omega) (by omega) q)
def inM (v : Int32) (n : Nat) : Nat → Int32 := fun k => if k < n then (if k % 31 = 0 then v else -1) else 0
theorem inM_0 {v : Int32} : inM v 0 = fun _ => 0 := by
  funext k
  simp [inM]
theorem inM_s {v z : Int32} {n : Nat} (hz : z = if n % 31 = 0 then v else -1) : va_up (inM v n) n z = inM v (n + 1) := by
  funext k
  unfold va_up inM
  by_cases h : k = n
  · subst h
    rw [if_pos rfl, if_pos (Nat.lt_succ_self _), hz]
  · rw [if_neg h]
    by_cases h2 : k < n
    · rw [if_pos h2, if_pos (show k < n + 1 by omega)]
    · rw [if_neg h2, if_neg (show ¬ k < n + 1 by omega)]
theorem up2_upA {μ : mS} {k a i : Nat} {g : Nat → Int32} {v : Int32} (h : k ≠ a) : up2 (upA μ a g) k i v = upA (up2 μ k i v) a g := by
  funext j
  show (if j = k then va_up (upA μ a g k) i v else upA μ a g j) = (if j = a then g else up2 μ k i v j)
  have e1 : upA μ a g k = μ k := if_neg h
  by_cases z : j = k
  · rw [if_pos z, if_neg (show ¬ j = a by omega), e1, z]
    exact (if_pos rfl).symm
  · rw [if_neg z]
    by_cases z2 : j = a
    · rw [if_pos z2]
      exact if_pos z2
    · rw [if_neg z2]
      exact (if_neg z2).trans (if_neg z).symm
/-- the reference as it begins -/
def mu0 : mS := up2 (fun _ _ => 0) 18 0 20000
def muA (i : Nat) : mS := upA mu0 4 (inM 0 i)
def muB (i : Nat) : mS := upA (upA (muA 248) 5 (inM 1000 i)) 6 (inM 1500 i)
def muC (i : Nat) : mS := upA (muB 93) 7 (fillv (-1) i)
theorem upA_same {μ : mS} {k : Nat} {g : Nat → Int32} (h : μ k = g) : upA μ k g = μ := by rw [← h]; exact upA_id μ k
theorem muA_0 : muA 0 = mu0 := upA_same inM_0.symm
theorem muB_0 : muB 0 = muA 248 := by
  unfold muB
  rw [upA_same (μ := muA 248) (k := 5) (by rw [inM_0]; rfl), upA_same (μ := muA 248) (k := 6) (by rw [inM_0]; rfl)]
theorem muC_0 : muC 0 = muB 93 := upA_same (by rw [fillv_0]; rfl)
theorem nI_z {i : Nat} (hi : i < 2 ^ 31) (h : nI i = 0) : i = 0 := (nI_eq (b := 0) hi (by decide)).mp h
