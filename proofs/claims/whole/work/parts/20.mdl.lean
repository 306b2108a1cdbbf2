/-! THE REFERENCE'S STATE: μ k i, k its field by its place, i the index (0 for a number of its own) -/
abbrev mS : Type := Nat → Nat → Int32
def up2 (μ : mS) (k i : Nat) (v : Int32) : mS := fun a => if a = k then va_up (μ k) i v else μ a
theorem up2_s {μ : mS} {k i : Nat} {v : Int32} : up2 μ k i v k = va_up (μ k) i v := if_pos rfl
theorem up2_n {μ : mS} {k i a : Nat} {v : Int32} (h : a ≠ k) : up2 μ k i v a = μ a := if_neg h
theorem va_up_s {g : Nat → Int32} {i : Nat} {v : Int32} : va_up g i v i = v := if_pos rfl
theorem va_up_n {g : Nat → Int32} {i j : Nat} {v : Int32} (h : j ≠ i) : va_up g i v j = g j := if_neg h
def mK : List Nat := [3, 4, 5, 6, 7, 8, 9, 10, 11, 12, 14, 15, 16, 17, 19, 20, 22, 23, 24]
def mLen (k : Nat) : Nat := match k with
  | 3 => 8
  | 4 => 248
  | 5 => 93
  | 6 => 93
  | 7 => 160
  | 8 => 160
  | 9 => 160
  | 10 => 8
  | 11 => 8
  | 12 => 992
  | 14 => 20
  | 15 => 20
  | 16 => 20
  | 17 => 20
  | 19 => 3
  | 20 => 3
  | 22 => 40
  | 23 => 40
  | 24 => 40
  | _ => 0
def mObj (μ : mS) (β : Nat → Nat) : List Value := [.int (μ 0 0), .int (μ 1 0), .int (μ 2 0), .ref (β 3), .ref (β 4), .ref (β 5), .ref (β 6), .ref (β 7), .ref (β 8), .ref (β 9), .ref (β 10), .ref (β 11), .ref (β 12), .int (μ 13 0), .ref (β 14), .ref (β 15), .ref (β 16), .ref (β 17), .int (μ 18 0), .ref (β 19), .ref (β 20), .int (μ 21 0), .ref (β 22), .ref (β 23), .ref (β 24)]
def Rm (y : Nat → ClassId) (μ : mS) (β : Nat → Nat) (f : fw_F) : Prop := f (β 0) = some (.inr (9, mObj μ β)) ∧ (∀ k ∈ mK, f (β k) = some (.inl (y (if k = 24 then 1 else 0), mLen k, .inl (μ k)))) ∧ ∀ i ∈ 0 :: mK, ∀ j ∈ 0 :: mK, β i = β j → i = j
section RM
variable {y : Nat → ClassId} {μ : mS} {β : Nat → Nat} {f : fw_F}
theorem Rm.o (h : Rm y μ β f) : f (β 0) = some (.inr (9, mObj μ β)) := h.1
theorem mK_0 {k : Nat} (hk : k ∈ mK) : k ≠ 0 := by
  intro z
  rw [z] at hk
  exact absurd hk (by decide)
theorem Rm.setA {k : Nat} (h : Rm y μ β f) (hk : k ∈ mK) (i : Nat) (v : Int32) : Rm y (up2 μ k i v) β (fw_up f (β k) (.inl (y (if k = 24 then 1 else 0), mLen k, .inl (va_up (μ k) i v)))) := by
  refine ⟨?_, fun a ha => ?_, h.2.2⟩
  · rw [fw_up_n (fun z => mK_0 hk (h.2.2 0 List.mem_cons_self k (List.mem_cons_of_mem _ hk) z).symm), h.1]
    have e : ∀ a, a ≠ k → up2 μ k i v a = μ a := fun a q => up2_n q
    simp only [mK, List.mem_cons, List.not_mem_nil, or_false] at hk
    simp only [mObj]
    rw [e 0 (by omega), e 1 (by omega), e 2 (by omega), e 13 (by omega), e 18 (by omega), e 21 (by omega)]
  · by_cases z : a = k
    · rw [z, fw_up_s, up2_s]
    · rw [fw_up_n (fun q => z (h.2.2 a (List.mem_cons_of_mem _ ha) k (List.mem_cons_of_mem _ hk) q)), up2_n z]
      exact h.2.1 a ha
theorem Rm.setF {k : Nat} (h : Rm y μ β f) (hk : k ∉ mK) (v : Int32) : Rm y (up2 μ k 0 v) β (fw_up f (β 0) (.inr (9, mObj (up2 μ k 0 v) β))) := by
  refine ⟨fw_up_s, fun a ha => ?_, h.2.2⟩
  rw [fw_up_n (fun q => mK_0 ha (h.2.2 a (List.mem_cons_of_mem _ ha) 0 List.mem_cons_self q)), up2_n (fun z => hk (by rw [← z]; exact ha))]
  exact h.2.1 a ha
theorem Rm.a3 (h : Rm y μ β f) : f (β 3) = some (.inl (y 0, 8, .inl (μ 3))) := h.2.1 3 (by decide)
theorem Rm.s3 (h : Rm y μ β f) (i : Nat) (v : Int32) : Rm y (up2 μ 3 i v) β (fw_up f (β 3) (.inl (y 0, 8, .inl (va_up (μ 3) i v)))) := h.setA (k := 3) (by decide) i v
theorem Rm.a4 (h : Rm y μ β f) : f (β 4) = some (.inl (y 0, 248, .inl (μ 4))) := h.2.1 4 (by decide)
theorem Rm.s4 (h : Rm y μ β f) (i : Nat) (v : Int32) : Rm y (up2 μ 4 i v) β (fw_up f (β 4) (.inl (y 0, 248, .inl (va_up (μ 4) i v)))) := h.setA (k := 4) (by decide) i v
theorem Rm.a5 (h : Rm y μ β f) : f (β 5) = some (.inl (y 0, 93, .inl (μ 5))) := h.2.1 5 (by decide)
theorem Rm.s5 (h : Rm y μ β f) (i : Nat) (v : Int32) : Rm y (up2 μ 5 i v) β (fw_up f (β 5) (.inl (y 0, 93, .inl (va_up (μ 5) i v)))) := h.setA (k := 5) (by decide) i v
theorem Rm.a6 (h : Rm y μ β f) : f (β 6) = some (.inl (y 0, 93, .inl (μ 6))) := h.2.1 6 (by decide)
theorem Rm.s6 (h : Rm y μ β f) (i : Nat) (v : Int32) : Rm y (up2 μ 6 i v) β (fw_up f (β 6) (.inl (y 0, 93, .inl (va_up (μ 6) i v)))) := h.setA (k := 6) (by decide) i v
theorem Rm.a7 (h : Rm y μ β f) : f (β 7) = some (.inl (y 0, 160, .inl (μ 7))) := h.2.1 7 (by decide)
theorem Rm.s7 (h : Rm y μ β f) (i : Nat) (v : Int32) : Rm y (up2 μ 7 i v) β (fw_up f (β 7) (.inl (y 0, 160, .inl (va_up (μ 7) i v)))) := h.setA (k := 7) (by decide) i v
theorem Rm.a8 (h : Rm y μ β f) : f (β 8) = some (.inl (y 0, 160, .inl (μ 8))) := h.2.1 8 (by decide)
theorem Rm.s8 (h : Rm y μ β f) (i : Nat) (v : Int32) : Rm y (up2 μ 8 i v) β (fw_up f (β 8) (.inl (y 0, 160, .inl (va_up (μ 8) i v)))) := h.setA (k := 8) (by decide) i v
theorem Rm.a9 (h : Rm y μ β f) : f (β 9) = some (.inl (y 0, 160, .inl (μ 9))) := h.2.1 9 (by decide)
theorem Rm.s9 (h : Rm y μ β f) (i : Nat) (v : Int32) : Rm y (up2 μ 9 i v) β (fw_up f (β 9) (.inl (y 0, 160, .inl (va_up (μ 9) i v)))) := h.setA (k := 9) (by decide) i v
theorem Rm.a10 (h : Rm y μ β f) : f (β 10) = some (.inl (y 0, 8, .inl (μ 10))) := h.2.1 10 (by decide)
theorem Rm.s10 (h : Rm y μ β f) (i : Nat) (v : Int32) : Rm y (up2 μ 10 i v) β (fw_up f (β 10) (.inl (y 0, 8, .inl (va_up (μ 10) i v)))) := h.setA (k := 10) (by decide) i v
theorem Rm.a11 (h : Rm y μ β f) : f (β 11) = some (.inl (y 0, 8, .inl (μ 11))) := h.2.1 11 (by decide)
theorem Rm.s11 (h : Rm y μ β f) (i : Nat) (v : Int32) : Rm y (up2 μ 11 i v) β (fw_up f (β 11) (.inl (y 0, 8, .inl (va_up (μ 11) i v)))) := h.setA (k := 11) (by decide) i v
theorem Rm.a12 (h : Rm y μ β f) : f (β 12) = some (.inl (y 0, 992, .inl (μ 12))) := h.2.1 12 (by decide)
theorem Rm.s12 (h : Rm y μ β f) (i : Nat) (v : Int32) : Rm y (up2 μ 12 i v) β (fw_up f (β 12) (.inl (y 0, 992, .inl (va_up (μ 12) i v)))) := h.setA (k := 12) (by decide) i v
theorem Rm.a14 (h : Rm y μ β f) : f (β 14) = some (.inl (y 0, 20, .inl (μ 14))) := h.2.1 14 (by decide)
theorem Rm.s14 (h : Rm y μ β f) (i : Nat) (v : Int32) : Rm y (up2 μ 14 i v) β (fw_up f (β 14) (.inl (y 0, 20, .inl (va_up (μ 14) i v)))) := h.setA (k := 14) (by decide) i v
theorem Rm.a15 (h : Rm y μ β f) : f (β 15) = some (.inl (y 0, 20, .inl (μ 15))) := h.2.1 15 (by decide)
theorem Rm.s15 (h : Rm y μ β f) (i : Nat) (v : Int32) : Rm y (up2 μ 15 i v) β (fw_up f (β 15) (.inl (y 0, 20, .inl (va_up (μ 15) i v)))) := h.setA (k := 15) (by decide) i v
theorem Rm.a16 (h : Rm y μ β f) : f (β 16) = some (.inl (y 0, 20, .inl (μ 16))) := h.2.1 16 (by decide)
theorem Rm.s16 (h : Rm y μ β f) (i : Nat) (v : Int32) : Rm y (up2 μ 16 i v) β (fw_up f (β 16) (.inl (y 0, 20, .inl (va_up (μ 16) i v)))) := h.setA (k := 16) (by decide) i v
theorem Rm.a17 (h : Rm y μ β f) : f (β 17) = some (.inl (y 0, 20, .inl (μ 17))) := h.2.1 17 (by decide)
theorem Rm.s17 (h : Rm y μ β f) (i : Nat) (v : Int32) : Rm y (up2 μ 17 i v) β (fw_up f (β 17) (.inl (y 0, 20, .inl (va_up (μ 17) i v)))) := h.setA (k := 17) (by decide) i v
theorem Rm.a19 (h : Rm y μ β f) : f (β 19) = some (.inl (y 0, 3, .inl (μ 19))) := h.2.1 19 (by decide)
theorem Rm.s19 (h : Rm y μ β f) (i : Nat) (v : Int32) : Rm y (up2 μ 19 i v) β (fw_up f (β 19) (.inl (y 0, 3, .inl (va_up (μ 19) i v)))) := h.setA (k := 19) (by decide) i v
theorem Rm.a20 (h : Rm y μ β f) : f (β 20) = some (.inl (y 0, 3, .inl (μ 20))) := h.2.1 20 (by decide)
theorem Rm.s20 (h : Rm y μ β f) (i : Nat) (v : Int32) : Rm y (up2 μ 20 i v) β (fw_up f (β 20) (.inl (y 0, 3, .inl (va_up (μ 20) i v)))) := h.setA (k := 20) (by decide) i v
theorem Rm.a22 (h : Rm y μ β f) : f (β 22) = some (.inl (y 0, 40, .inl (μ 22))) := h.2.1 22 (by decide)
theorem Rm.s22 (h : Rm y μ β f) (i : Nat) (v : Int32) : Rm y (up2 μ 22 i v) β (fw_up f (β 22) (.inl (y 0, 40, .inl (va_up (μ 22) i v)))) := h.setA (k := 22) (by decide) i v
theorem Rm.a23 (h : Rm y μ β f) : f (β 23) = some (.inl (y 0, 40, .inl (μ 23))) := h.2.1 23 (by decide)
theorem Rm.s23 (h : Rm y μ β f) (i : Nat) (v : Int32) : Rm y (up2 μ 23 i v) β (fw_up f (β 23) (.inl (y 0, 40, .inl (va_up (μ 23) i v)))) := h.setA (k := 23) (by decide) i v
theorem Rm.a24 (h : Rm y μ β f) : f (β 24) = some (.inl (y 1, 40, .inl (μ 24))) := h.2.1 24 (by decide)
theorem Rm.s24 (h : Rm y μ β f) (i : Nat) (v : Int32) : Rm y (up2 μ 24 i v) β (fw_up f (β 24) (.inl (y 1, 40, .inl (va_up (μ 24) i v)))) := h.setA (k := 24) (by decide) i v
theorem Rm.p0 (h : Rm y μ β f) (v : Int32) : Rm y (up2 μ 0 0 v) β (fw_up f (β 0) (.inr (9, [.int v, .int (μ 1 0), .int (μ 2 0), .ref (β 3), .ref (β 4), .ref (β 5), .ref (β 6), .ref (β 7), .ref (β 8), .ref (β 9), .ref (β 10), .ref (β 11), .ref (β 12), .int (μ 13 0), .ref (β 14), .ref (β 15), .ref (β 16), .ref (β 17), .int (μ 18 0), .ref (β 19), .ref (β 20), .int (μ 21 0), .ref (β 22), .ref (β 23), .ref (β 24)]))) := h.setF (k := 0) (by decide) v
theorem Rm.p1 (h : Rm y μ β f) (v : Int32) : Rm y (up2 μ 1 0 v) β (fw_up f (β 0) (.inr (9, [.int (μ 0 0), .int v, .int (μ 2 0), .ref (β 3), .ref (β 4), .ref (β 5), .ref (β 6), .ref (β 7), .ref (β 8), .ref (β 9), .ref (β 10), .ref (β 11), .ref (β 12), .int (μ 13 0), .ref (β 14), .ref (β 15), .ref (β 16), .ref (β 17), .int (μ 18 0), .ref (β 19), .ref (β 20), .int (μ 21 0), .ref (β 22), .ref (β 23), .ref (β 24)]))) := h.setF (k := 1) (by decide) v
theorem Rm.p2 (h : Rm y μ β f) (v : Int32) : Rm y (up2 μ 2 0 v) β (fw_up f (β 0) (.inr (9, [.int (μ 0 0), .int (μ 1 0), .int v, .ref (β 3), .ref (β 4), .ref (β 5), .ref (β 6), .ref (β 7), .ref (β 8), .ref (β 9), .ref (β 10), .ref (β 11), .ref (β 12), .int (μ 13 0), .ref (β 14), .ref (β 15), .ref (β 16), .ref (β 17), .int (μ 18 0), .ref (β 19), .ref (β 20), .int (μ 21 0), .ref (β 22), .ref (β 23), .ref (β 24)]))) := h.setF (k := 2) (by decide) v
theorem Rm.p13 (h : Rm y μ β f) (v : Int32) : Rm y (up2 μ 13 0 v) β (fw_up f (β 0) (.inr (9, [.int (μ 0 0), .int (μ 1 0), .int (μ 2 0), .ref (β 3), .ref (β 4), .ref (β 5), .ref (β 6), .ref (β 7), .ref (β 8), .ref (β 9), .ref (β 10), .ref (β 11), .ref (β 12), .int v, .ref (β 14), .ref (β 15), .ref (β 16), .ref (β 17), .int (μ 18 0), .ref (β 19), .ref (β 20), .int (μ 21 0), .ref (β 22), .ref (β 23), .ref (β 24)]))) := h.setF (k := 13) (by decide) v
theorem Rm.p18 (h : Rm y μ β f) (v : Int32) : Rm y (up2 μ 18 0 v) β (fw_up f (β 0) (.inr (9, [.int (μ 0 0), .int (μ 1 0), .int (μ 2 0), .ref (β 3), .ref (β 4), .ref (β 5), .ref (β 6), .ref (β 7), .ref (β 8), .ref (β 9), .ref (β 10), .ref (β 11), .ref (β 12), .int (μ 13 0), .ref (β 14), .ref (β 15), .ref (β 16), .ref (β 17), .int v, .ref (β 19), .ref (β 20), .int (μ 21 0), .ref (β 22), .ref (β 23), .ref (β 24)]))) := h.setF (k := 18) (by decide) v
theorem Rm.p21 (h : Rm y μ β f) (v : Int32) : Rm y (up2 μ 21 0 v) β (fw_up f (β 0) (.inr (9, [.int (μ 0 0), .int (μ 1 0), .int (μ 2 0), .ref (β 3), .ref (β 4), .ref (β 5), .ref (β 6), .ref (β 7), .ref (β 8), .ref (β 9), .ref (β 10), .ref (β 11), .ref (β 12), .int (μ 13 0), .ref (β 14), .ref (β 15), .ref (β 16), .ref (β 17), .int (μ 18 0), .ref (β 19), .ref (β 20), .int v, .ref (β 22), .ref (β 23), .ref (β 24)]))) := h.setF (k := 21) (by decide) v
end RM
theorem nI_mul (a b : Nat) : nI a * nI b = nI (a * b) := (Int32.ofNat_mul a b).symm
theorem fw_b1 {P : Prop} [Decidable P] (h : ¬ (if P then (1 : Int32) else 0) = 0) : P := by
  by_cases z : P
  · exact z
  · exact absurd (if_neg z) h
theorem fw_b0 {P : Prop} [Decidable P] (h : (if P then (1 : Int32) else 0) = 0) : ¬ P := by
  intro z
  rw [if_pos z] at h
  exact absurd h (by decide)
theorem fw_bz {P : Prop} [Decidable P] : narrow .boolean (.int (if P then (1 : Int32) else 0)) = .int (if P then (1 : Int32) else 0) := by
  by_cases z : P
  · rw [if_pos z]; decide +kernel
  · rw [if_neg z]; decide +kernel
abbrev inr (v a b : Int32) : Prop := a ≤ v ∧ v ≤ b
theorem inr_of {v N : Int32} {n : Nat} (hN : N.toInt = n) (h : inr v 0 N) : ∃ j, j ≤ n ∧ v = nI j := nI_of2 hN (Int32.not_lt.mpr h.1) h.2
theorem inr_w {v : Int32} {n : Nat} (hn : n < 100000) (h : inr v 0 (nI n - 1)) : ∃ j, j < n ∧ v = nI j := by
  cases n with
  | zero =>
    have h2 := h.2
    have h1 := h.1
    rw [Int32.le_iff_toInt_le] at h1 h2
    have e : (nI 0 - 1 : Int32).toInt = -1 := by decide +kernel
    rw [e] at h2
    have e0 : (0 : Int32).toInt = 0 := rfl
    omega
  | succ n =>
    rw [nI_pred] at h
    obtain ⟨j, h1, h2⟩ := nI_of2 (nI_toInt (by omega)) (Int32.not_lt.mpr h.1) h.2
    exact ⟨j, by omega, h2⟩
/-- the latest place at or ahead of p where a row holds something -/
def tld (r : Nat → Int32) : Nat → Nat
  | 0 => 0
  | n + 1 => if r (n + 1) = -1 then tld r n else n + 1
theorem tld_le (r : Nat → Int32) : ∀ p, tld r p ≤ p
  | 0 => Nat.le_refl _
  | n + 1 => by
    unfold tld
    split
    · have := tld_le r n
      omega
    · exact Nat.le_refl _
theorem tld_ge {r : Nat → Int32} {b : Nat} (hb : ¬ r b = -1) : ∀ p, b ≤ p → b ≤ tld r p
  | 0, h => by omega
  | n + 1, h => by
    unfold tld
    split
    · rename_i z
      by_cases q : b = n + 1
      · rw [q] at hb
        exact absurd z hb
      · exact tld_ge hb n (by omega)
    · exact h
theorem tld_step {r : Nat → Int32} {p : Nat} (h0 : 0 < p) (h : r p = -1) : tld r p = tld r (p - 1) := by
  cases p with
  | zero => omega
  | succ n => show (if r (n + 1) = -1 then tld r n else n + 1) = _; rw [if_pos h]; rfl
theorem tld_stop {r : Nat → Int32} {p : Nat} (h : ¬ r p = -1) : tld r p = p := by
  cases p with
  | zero => rfl
  | succ n => exact if_neg h
theorem tld_ne {r : Nat → Int32} {b : Nat} (hb : ¬ r b = -1) : ∀ p, b ≤ p → ¬ r (tld r p) = -1
  | 0, h => by
    have : b = 0 := by omega
    rw [this] at hb
    exact hb
  | n + 1, h => by
    by_cases z : r (n + 1) = -1
    · rw [tld_step (by omega) z]
      by_cases q : b = n + 1
      · rw [q] at hb
        exact absurd z hb
      · exact tld_ne hb n (by omega)
    · rw [tld_stop z]
      exact z
/-- how many sheets stand from place b on without a gap -/
def cntM (g : Nat → Int32) (b : Nat) : Nat → Nat → Nat
  | 0, k => k
  | n + 1, k => if g (b + k) = -1 then k else cntM g b n (k + 1)
theorem cntM_le {g : Nat → Int32} {b : Nat} : ∀ (n k : Nat), cntM g b n k ≤ k + n := by
  intro n
  induction n with
  | zero => intro k; exact Nat.le_refl _
  | succ n ih =>
    intro k
    unfold cntM
    split
    · omega
    · have := ih (k + 1)
      omega
/-- what every call finds of the reference's numbers -/
def Im (μ : mS) (nw wk no nt : Nat) : Prop := μ 2 0 = nI nw ∧ nw ≤ 8 ∧ μ 1 0 = nI wk ∧ wk ≤ 31 ∧ μ 13 0 = nI no ∧ no ≤ 20 ∧ μ 21 0 = nI nt ∧ nt ≤ 40 ∧ (∀ w, w < 8 → ¬ μ 4 (31 * w) = -1) ∧ (∀ i, i < 248 → μ 4 i = -1 ∨ ∃ r, r < 3 ∧ μ 4 i = nI r) ∧ (∀ r, r < 3 → ¬ μ 5 (31 * r) = -1) ∧ (∀ w, w < nw → ∃ e, e < 3 ∧ μ 3 w = nI e) ∧ (∀ t, t < nt → ∃ e, e < 3 ∧ μ 22 t = nI e)
def lst (a b : Int32) : Int32 := if a < b then a else b
def cnM (μ : mS) (w : Nat) : Nat := cntM (μ 7) (20 * w) 20 0
theorem cnM_le (μ : mS) (w : Nat) : cnM μ w ≤ 20 := by
  have := cntM_le (g := μ 7) (b := 20 * w) 20 0
  unfold cnM
  omega
def rkM (μ : mS) (w k : Nat) : Int32 := μ 4 (tld (μ 4) (31 * w + k))
/-- what is due of the first n sheets of w for the week k, rates at the place q -/
def dsM (μ : mS) (w k q : Nat) : Nat → Int32
  | 0 => 0
  | n + 1 => dsM μ w k q n + (if μ 7 (20 * w + n) = nI k then μ 8 (20 * w + n) * μ 5 q + μ 9 (20 * w + n) * μ 6 q else 0)
def duM (μ : mS) (w k : Nat) : Int32 := dsM μ w k (tld (μ 5) (31 * (rkM μ w k).toNatClampNeg + k)) (cnM μ w)
def csM (μ : mS) (w : Nat) : Nat → Int32
  | 0 => 0
  | n + 1 => csM μ w n + duM μ w n
def clM (μ : mS) (w : Nat) : Int32 := csM μ w (min ((μ 1 0).toNatClampNeg + 1) 31) - μ 10 w
