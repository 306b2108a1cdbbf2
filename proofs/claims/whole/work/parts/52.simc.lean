/-! THE GARNISHING side by side -/
theorem i_sub {a b : Int32} (h1 : -2147483648 ≤ a.toInt - b.toInt) (h2 : a.toInt - b.toInt < 2147483648) : (a - b).toInt = a.toInt - b.toInt := by
  rw [Int32.toInt_sub]
  exact Int.bmod_eq_of_le (by omega) (by omega)
theorem i_add {a b : Int32} (h1 : -2147483648 ≤ a.toInt + b.toInt) (h2 : a.toInt + b.toInt < 2147483648) : (a + b).toInt = a.toInt + b.toInt := by
  rw [Int32.toInt_add]
  exact Int.bmod_eq_of_le (by omega) (by omega)
theorem ring1 (p f m : Int32) : p - f - (p - m) = m - f := by
  rw [Int32.sub_eq_add_neg (p - f), Int32.sub_eq_add_neg p m, Int32.neg_add, Int32.sub_eq_add_neg (-p) (-m), Int32.neg_neg, Int32.sub_eq_add_neg p f, Int32.sub_eq_add_neg m f]
  rw [Int32.add_assoc, ← Int32.add_assoc (-f) (-p) m, Int32.add_comm (-f) (-p), Int32.add_assoc (-p), ← Int32.add_assoc p (-p), Int32.add_right_neg, Int32.zero_add, Int32.add_comm]
theorem ring2 (p m x : Int32) : p - m + x = p - (m - x) := by
  rw [Int32.sub_eq_add_neg p m, Int32.sub_eq_add_neg m x, Int32.sub_eq_add_neg p (m + -x), Int32.neg_add, Int32.sub_eq_add_neg (-m), Int32.neg_neg, Int32.add_assoc]
theorem i_0 : (0 : Int32).toInt = 0 := rfl
theorem lst_toInt {a b : Int32} : (lst a b).toInt = min a.toInt b.toInt := by
  unfold lst
  by_cases z : a < b
  · rw [if_pos z]
    rw [Int32.lt_iff_toInt_lt] at z
    omega
  · rw [if_neg z]
    rw [Int32.lt_iff_toInt_lt] at z
    omega
theorem i_ext {a b : Int32} (h : a.toInt = b.toInt) : a = b := Int32.toInt_inj.mp h
/-- what an order gets: the two ways to say it -/
theorem pay_eq {lf fl left most : Int32} (hl : 0 ≤ left.toInt) (hm : 0 ≤ most.toInt) (hf0 : 0 ≤ fl.toInt) (hf1 : fl.toInt ≤ 10000000) (h0 : 0 ≤ lf.toInt) (h1 : lf.toInt ≤ 40000000) :
    payv (lf - fl) left most = lst (lst left most) (if fl < lf then lf - fl else 0) ∧ 0 ≤ (lst (lst left most) (if fl < lf then lf - fl else 0)).toInt ∧ (lst (lst left most) (if fl < lf then lf - fl else 0)).toInt ≤ left.toInt ∧ (lst (lst left most) (if fl < lf then lf - fl else 0)).toInt ≤ lf.toInt := by
  have hs : (lf - fl).toInt = lf.toInt - fl.toInt := i_sub (by omega) (by omega)
  have hm2 : (if most < left then most else left).toInt = min left.toInt most.toInt := by
    by_cases z : most < left
    · rw [if_pos z]; rw [Int32.lt_iff_toInt_lt] at z; omega
    · rw [if_neg z]; rw [Int32.lt_iff_toInt_lt] at z; omega
  have hc : (if fl < lf then lf - fl else 0).toInt = max (lf.toInt - fl.toInt) 0 := by
    by_cases z : fl < lf
    · rw [if_pos z, hs]; rw [Int32.lt_iff_toInt_lt] at z; omega
    · rw [if_neg z, i_0]; rw [Int32.lt_iff_toInt_lt] at z; omega
  have e : (lst (lst left most) (if fl < lf then lf - fl else 0)).toInt = min (min left.toInt most.toInt) (max (lf.toInt - fl.toInt) 0) := by
    rw [lst_toInt, lst_toInt, hc]
  refine ⟨i_ext ?_, by rw [e]; omega, by rw [e]; omega, by rw [e]; omega⟩
  rw [e]
  unfold payv
  obtain ⟨mm, emm⟩ : ∃ z, z = (if most < left then most else left) := ⟨_, rfl⟩
  rw [← emm] at hm2 ⊢
  by_cases z : mm < lf - fl
  · rw [if_pos z]
    rw [Int32.lt_iff_toInt_lt, hs] at z
    by_cases z2 : (0 : Int32) < mm
    · rw [if_pos z2]; omega
    · rw [if_neg z2, i_0]; rw [Int32.lt_iff_toInt_lt, i_0] at z2; omega
  · rw [if_neg z]
    rw [Int32.lt_iff_toInt_lt, hs] at z
    by_cases z2 : (0 : Int32) < lf - fl
    · rw [if_pos z2, hs]; rw [Int32.lt_iff_toInt_lt, i_0, hs] at z2; omega
    · rw [if_neg z2, i_0]; rw [Int32.lt_iff_toInt_lt, i_0, hs] at z2; omega
section GARN
variable {μ : mS} {κ0 : cS} {no w : Nat} {p a : Int32}
/-- what stays through it all -/
def gFix (μ : mS) (κ0 : cS) (no : Nat) (p a : Int32) : Prop := (∀ i, i < no → κ0 15 i 0 = μ 14 i ∧ κ0 15 i 1 = μ 15 i ∧ κ0 15 i 3 = μ 17 i ∧ 0 ≤ (μ 17 i).toInt) ∧ 0 ≤ (μ 18 0).toInt ∧ (μ 18 0).toInt ≤ 10000000 ∧ a = p - μ 18 0
/-- where both stand -/
def gAt (no : Nat) (κ0 : cS) (p : Int32) (S : cS × Int32) (M : (Nat → Int32) × Int32) : Prop := oK κ0 S.1 ∧ (∀ i, i < no → S.1 15 i 2 = M.1 i) ∧ S.2 = p - M.2 ∧ (∀ i, i < no → 0 ≤ (M.1 i).toInt) ∧ 0 ≤ M.2.toInt ∧ M.2.toInt ≤ 40000000
theorem gStep (hF : gFix μ κ0 no p a) {g i : Nat} {S : cS × Int32} (hi : i < no) {n : Nat} (hn : n = g * no + i) (h : gAt no κ0 p (goC no w a g S i) (gnM μ w no p n)) : gAt no κ0 p (goC no w a g S (i + 1)) (gnM μ w no p (n + 1)) := by
  obtain ⟨F1, F2, F3, F4⟩ := hF
  obtain ⟨f0, f1, f3, f4⟩ := F1 i hi
  obtain ⟨h1, h2, h3, h4, h5, h6⟩ := h
  have hmod : n % no = i := by rw [hn, Nat.add_comm, Nat.add_mul_mod_self_right]; exact Nat.mod_eq_of_lt hi
  have hdiv : n / no = g := by rw [hn, Nat.add_comm, Nat.add_mul_div_right _ _ (by omega), Nat.div_eq_of_lt hi, Nat.zero_add]
  obtain ⟨ν, eν⟩ : ∃ z, z = goC no w a g S i := ⟨_, rfl⟩
  obtain ⟨M, eM⟩ : ∃ z, z = gnM μ w no p n := ⟨_, rfl⟩
  rw [← eν] at h1 h2 h3
  rw [← eM] at h2 h3 h4 h5 h6
  have eM2 : gnM μ w no p (n + 1) = (va_up M.1 i (M.1 i - itsM μ w no n M.1 M.2), M.2 - itsM μ w no n M.1 M.2) := by
    show (va_up (gnM μ w no p n).1 (n % no) ((gnM μ w no p n).1 (n % no) - itsM μ w no n (gnM μ w no p n).1 (gnM μ w no p n).2), (gnM μ w no p n).2 - itsM μ w no n (gnM μ w no p n).1 (gnM μ w no p n).2) = _
    rw [← eM, hmod]
  have k0 : ν.1 15 i 0 = μ 14 i := (h1.2 i 0 (by decide)).trans f0
  have k1 : ν.1 15 i 1 = μ 15 i := (h1.2 i 1 (by decide)).trans f1
  have k3 : ν.1 15 i 3 = μ 17 i := (h1.2 i 3 (by decide)).trans f3
  have hN : goC no w a g S (i + 1) = if i < no ∧ ν.1 15 i 0 = nI w ∧ ν.1 15 i 1 = nI g then (upF ν.1 15 i (va_up (ν.1 15 i) 2 (ν.1 15 i 2 - payv (a - ν.2) (ν.1 15 i 2) (ν.1 15 i 3))), ν.2 + payv (a - ν.2) (ν.1 15 i 2) (ν.1 15 i 3)) else ν := by
    unfold goC
    rw [← eν]
  rw [hN, eM2]
  by_cases z : μ 14 i = nI w ∧ μ 15 i = nI g
  · rw [if_pos ⟨hi, by rw [k0]; exact z.1, by rw [k1]; exact z.2⟩]
    have ea : a - ν.2 = M.2 - μ 18 0 := by
      rw [F4, h3]
      exact ring1 p (μ 18 0) M.2
    obtain ⟨q1, q2, q3, q4⟩ := pay_eq (lf := M.2) (fl := μ 18 0) (left := M.1 i) (most := μ 17 i) (h4 i hi) f4 F2 F3 h5 h6
    have eits : itsM μ w no n M.1 M.2 = lst (lst (M.1 i) (μ 17 i)) (if μ 18 0 < M.2 then M.2 - μ 18 0 else 0) := by
      unfold itsM
      rw [hmod, hdiv, if_pos z]
    have ep : payv (a - ν.2) (ν.1 15 i 2) (ν.1 15 i 3) = itsM μ w no n M.1 M.2 := by rw [ea, h2 i hi, k3, eits]; exact q1
    obtain ⟨x, ex⟩ : ∃ z, z = itsM μ w no n M.1 M.2 := ⟨_, rfl⟩
    rw [ep, ← ex]
    rw [← eits, ← ex] at q2 q3 q4
    have e1 : (M.1 i - x).toInt = (M.1 i).toInt - x.toInt := i_sub (by have := (M.1 i).toInt_lt; omega) (by have := (M.1 i).toInt_lt; omega)
    have e2 : (M.2 - x).toInt = M.2.toInt - x.toInt := i_sub (by omega) (by omega)
    refine ⟨h1.up _ _, fun j hj => ?_, ?_, fun j hj => ?_, by show 0 ≤ (M.2 - x).toInt; omega, by show (M.2 - x).toInt ≤ 40000000; omega⟩
    · by_cases q : j = i
      · subst q
        show upF ν.1 15 j (va_up (ν.1 15 j) 2 (ν.1 15 j 2 - x)) 15 j 2 = va_up M.1 j (M.1 j - x) j
        rw [upF_s, va_up_s, va_up_s, h2 j hj]
      · show upF ν.1 15 i (va_up (ν.1 15 i) 2 (ν.1 15 i 2 - x)) 15 j 2 = va_up M.1 i (M.1 i - x) j
        rw [upF_i q, va_up_n q]
        exact h2 j hj
    · show ν.2 + x = p - (M.2 - x)
      rw [h3, ring2]
    · by_cases q : j = i
      · subst q
        show 0 ≤ (va_up M.1 j (M.1 j - x) j).toInt
        rw [va_up_s]
        omega
      · show 0 ≤ (va_up M.1 i (M.1 i - x) j).toInt
        rw [va_up_n q]
        exact h4 j hj
  · rw [if_neg (fun t => z ⟨by rw [← k0]; exact t.2.1, by rw [← k1]; exact t.2.2⟩)]
    have eits : itsM μ w no n M.1 M.2 = 0 := by
      unfold itsM
      rw [hmod, hdiv, if_neg z]
    rw [eits, Int32.sub_zero, Int32.sub_zero]
    have eu : va_up M.1 i (M.1 i) = M.1 := by
      funext j
      by_cases q : j = i
      · rw [q, va_up_s]
      · rw [va_up_n q]
    rw [eu]
    exact ⟨h1, h2, h3, h4, h5, h6⟩
theorem gRow (hF : gFix μ κ0 no p a) {g : Nat} {S : cS × Int32} (h : gAt no κ0 p S (gnM μ w no p (g * no))) : ∀ i, i ≤ no → gAt no κ0 p (goC no w a g S i) (gnM μ w no p (g * no + i))
  | 0, _ => h
  | i + 1, hi => gStep hF (by omega) rfl (gRow hF h i (by omega))
theorem gTail {g : Nat} {S : cS × Int32} : ∀ d, goC no w a g S (no + d) = goC no w a g S no
  | 0 => rfl
  | d + 1 => by
    show goC no w a g S (no + d + 1) = _
    unfold goC
    rw [if_neg (fun z => absurd z.1 (by omega)), gTail d]
    cases no <;> rfl
theorem gGrade (hF : gFix μ κ0 no p a) (hno : no ≤ 20) {S : cS × Int32} (h : gAt no κ0 p S (μ 16, p)) : ∀ g, gAt no κ0 p (gaC no w a S g) (gnM μ w no p (g * no))
  | 0 => by rw [Nat.zero_mul]; exact h
  | g + 1 => by
    have z := gRow (w := w) hF (gGrade hF hno h g) no (Nat.le_refl _)
    rw [show (g + 1) * no = g * no + no from Nat.succ_mul g no]
    show gAt no κ0 p (goC no w a g (gaC no w a S g) 20) _
    rw [show 20 = no + (20 - no) by omega, gTail]
    exact z
end GARN
