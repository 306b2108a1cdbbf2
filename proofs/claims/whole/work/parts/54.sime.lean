/-! CLOSING A WEEK side by side: one worker -/
section CLO
variable {μ : mS} {κ : cS} {nw no nt wk w : Nat}
theorem pyA_k {ev k : Nat} {g : Int32} (h : k ≠ 10 ∧ k ≠ 11 ∧ k ≠ 12 ∧ k ≠ 19) : pyA μ w wk ev g k = μ k := by
  unfold pyA
  rw [up2_n h.2.2.1, up2_n h.2.2.1, up2_n h.2.2.2, up2_n h.2.1, up2_n h.1]
theorem upA_n {μ : mS} {k a : Nat} {g : Nat → Int32} (h : a ≠ k) : upA μ k g a = μ a := if_neg h
theorem upA_s {μ : mS} {k : Nat} {g : Nat → Int32} : upA μ k g k = g := if_pos rfl
theorem pyM_k {ev k : Nat} {g : Int32} (h : k ≠ 10 ∧ k ≠ 11 ∧ k ≠ 12 ∧ k ≠ 16 ∧ k ≠ 19) : pyM μ w wk no ev g k = μ k := by
  unfold pyM
  rw [up2_n h.2.2.1, up2_n h.2.2.1, upA_n h.2.2.2.1, pyA_k ⟨h.1, h.2.1, h.2.2.1, h.2.2.2.2⟩]
theorem pyM_10 {ev : Nat} {g : Int32} : pyM μ w wk no ev g 10 = va_up (μ 10) w (μ 10 w + g) := by
  unfold pyM pyA
  rw [up2_n (by decide), up2_n (by decide), upA_n (by decide), up2_n (by decide), up2_n (by decide), up2_n (by decide), up2_n (by decide), up2_s]
theorem pyM_11 {ev : Nat} {g : Int32} : pyM μ w wk no ev g 11 = va_up (μ 11) w (μ 11 w - lst (μ 11 w) (g / 10)) := by
  unfold pyM pyA
  rw [up2_n (by decide), up2_n (by decide), upA_n (by decide), up2_n (by decide), up2_n (by decide), up2_n (by decide), up2_s, up2_n (by decide)]
theorem pyM_19 {ev : Nat} {g : Int32} : pyM μ w wk no ev g 19 = va_up (μ 19) ev (μ 19 ev + (lst (μ 11 w) (g / 10) - g)) := by
  unfold pyM pyA
  rw [up2_n (by decide), up2_n (by decide), upA_n (by decide), up2_n (by decide), up2_n (by decide), up2_s, up2_n (by decide), up2_n (by decide)]
theorem pyM_16 {ev : Nat} {g : Int32} : pyM μ w wk no ev g 16 = (gnM (pyA μ w wk ev g) w no (g - lst (μ 11 w) (g / 10)) (3 * no)).1 := by
  unfold pyM
  rw [up2_n (by decide), up2_n (by decide), upA_s]
theorem pyM_12 {ev : Nat} {g : Int32} : pyM μ w wk no ev g 12 = va_up (va_up (va_up (va_up (μ 12) (4 * (31 * w + wk) + 0) g) (4 * (31 * w + wk) + 1) (lst (μ 11 w) (g / 10))) (4 * (31 * w + wk) + 2) (grM (pyA μ w wk ev g) w no (g - lst (μ 11 w) (g / 10)))) (4 * (31 * w + wk) + 3) (g - lst (μ 11 w) (g / 10) - grM (pyA μ w wk ev g) w no (g - lst (μ 11 w) (g / 10))) := by
  unfold pyM
  rw [up2_s, up2_s, upA_n (by decide)]
  unfold pyA
  rw [up2_s, up2_s, up2_n (by decide), up2_n (by decide), up2_n (by decide)]
theorem tk_eq {g : Int32} (h3 : κ 4 w 3 = μ 11 w) : tkC κ w g = lst (μ 11 w) (g / 10) := by
  unfold tkC
  rw [h3]
  apply i_ext
  rw [lst_toInt]
  by_cases z : g / 10 < μ 11 w
  · rw [if_pos z]
    rw [Int32.lt_iff_toInt_lt] at z
    omega
  · rw [if_neg z]
    rw [Int32.lt_iff_toInt_lt] at z
    omega
theorem i_div10 {g : Int32} (h : 0 ≤ g.toInt) : (g / 10).toInt = g.toInt / 10 := by
  have e10 : (10 : Int32).toInt = 10 := by decide +kernel
  rw [Int32.toInt_div, e10, Int.tdiv_eq_ediv_of_nonneg h]
  have := g.toInt_lt
  exact Int.bmod_eq_of_le (by omega) (by omega)
/-- the class's numbers behind pay -/
theorem payK_k {ev k : Nat} {g : Int32} (h : k ≠ 1 ∧ k ≠ 4 ∧ k ≠ 10 ∧ k ≠ 11 ∧ k ≠ 12 ∧ k ≠ 13 ∧ k ≠ 14 ∧ k ≠ 15) : payK κ no wk w ev g k = κ k := by
  obtain ⟨h1, h4, h10, h11, h12, h13, h14, h15⟩ := h
  unfold payK slK
  funext b
  rw [upF_k h14, upF_k h13, upF_k h12, upF_k h11, upF_k h10, oK_pgC.1 k h15, pyK_k h1 h4]
theorem payK_1 {ev : Nat} {g : Int32} : payK κ no wk w ev g 1 = pyK κ w ev g 1 := by
  unfold payK
  rw [slK_1, oK_pgC.1 1 (by decide)]
theorem payK_4 {ev : Nat} {g : Int32} : payK κ no wk w ev g 4 = pyK κ w ev g 4 := by
  unfold payK
  rw [slK_4, oK_pgC.1 4 (by decide)]
theorem payK_15 {ev : Nat} {g : Int32} : payK κ no wk w ev g 15 = (pgC κ no w ev g).1 15 := by
  unfold payK
  rw [slK_15]
theorem payK_i {ev k i : Nat} {g : Int32} (h : i ≠ w) (h1 : k ≠ 1) (h15 : k ≠ 15) : payK κ no wk w ev g k i = κ k i := by
  unfold payK
  rw [slK_i h, oK_pgC.1 k h15]
  by_cases z : k = 4
  · rw [z, pyK_i h]
  · rw [pyK_k h1 z]
/-- garnished alike -/
theorem gn_eq {ev : Nat} {g : Int32} (hno : no ≤ 20) (hS : sOrd μ κ no) (h3 : κ 4 w 3 = μ 11 w) (hr0 : 0 ≤ (μ 11 w).toInt) (hg0 : 0 ≤ g.toInt) (hg1 : g.toInt ≤ 40000000) :
    (pgC κ no w ev g).2 = grM (pyA μ w wk ev g) w no (g - lst (μ 11 w) (g / 10)) ∧ (∀ i, i < no → (pgC κ no w ev g).1 15 i 2 = (gnM (pyA μ w wk ev g) w no (g - lst (μ 11 w) (g / 10)) (3 * no)).1 i ∧ 0 ≤ ((gnM (pyA μ w wk ev g) w no (g - lst (μ 11 w) (g / 10)) (3 * no)).1 i).toInt) ∧ ∀ i j, j ≠ 2 → (pgC κ no w ev g).1 15 i j = κ 15 i j := by
  obtain ⟨O1, O2, O3, O4⟩ := hS
  have hd := i_div10 hg0
  have ht : (lst (μ 11 w) (g / 10)).toInt = min (μ 11 w).toInt (g.toInt / 10) := by rw [lst_toInt, hd]
  have hs : (g - lst (μ 11 w) (g / 10)).toInt = g.toInt - min (μ 11 w).toInt (g.toInt / 10) := by rw [i_sub (by omega) (by omega), ht]
  have k14 : pyA μ w wk ev g 14 = μ 14 := pyA_k (by decide)
  have k15 : pyA μ w wk ev g 15 = μ 15 := pyA_k (by decide)
  have k16 : pyA μ w wk ev g 16 = μ 16 := pyA_k (by decide)
  have k17 : pyA μ w wk ev g 17 = μ 17 := pyA_k (by decide)
  have k18 : pyA μ w wk ev g 18 = μ 18 := pyA_k (by decide)
  have q15 : pyK κ w ev g 15 = κ 15 := pyK_k (by decide) (by decide)
  have hF : gFix (pyA μ w wk ev g) (pyK κ w ev g) no (g - lst (μ 11 w) (g / 10)) (g - lst (μ 11 w) (g / 10) - κ 0 0 0) := by
    refine ⟨fun i hi => ?_, by rw [k18]; exact O3, by rw [k18]; exact O4, by rw [k18, O2]⟩
    obtain ⟨a, b, c, d, e, f⟩ := O1 i hi
    rw [q15, k14, k15, k17]
    exact ⟨a, b, d, f⟩
  have h0 : gAt no (pyK κ w ev g) (g - lst (μ 11 w) (g / 10)) (pyK κ w ev g, 0) (pyA μ w wk ev g 16, g - lst (μ 11 w) (g / 10)) := by
    refine ⟨oK.refl _, fun i hi => ?_, ?_, fun i hi => ?_, by show 0 ≤ (g - lst (μ 11 w) (g / 10)).toInt; rw [hs]; omega, by show (g - lst (μ 11 w) (g / 10)).toInt ≤ 40000000; rw [hs]; omega⟩
    · show pyK κ w ev g 15 i 2 = pyA μ w wk ev g 16 i
      rw [q15, k16]
      exact (O1 i hi).2.2.1
    · show (0 : Int32) = (g - lst (μ 11 w) (g / 10)) - (g - lst (μ 11 w) (g / 10))
      rw [Int32.sub_self]
    · show 0 ≤ (pyA μ w wk ev g 16 i).toInt
      rw [k16]
      exact (O1 i hi).2.2.2.2.1
  have z := gGrade (w := w) hF hno h0 3
  have hpg : pgC κ no w ev g = gaC no w (g - lst (μ 11 w) (g / 10) - κ 0 0 0) (pyK κ w ev g, 0) 3 := by
    unfold pgC
    rw [tk_eq h3]
  rw [← hpg] at z
  obtain ⟨z1, z2, z3, z4, -, -⟩ := z
  refine ⟨z3, fun i hi => ⟨z2 i hi, z4 i hi⟩, fun i j hj => ?_⟩
  rw [z1.2 i j hj, q15]
end CLO
