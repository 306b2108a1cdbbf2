/-! SUMS, RANGES, ROUNDS OF THE CLASS'S NUMBERS -/
def lst (a b : Int32) : Int32 := if a < b then a else b
def gS (h : Nat → Int32) : Nat → Int32
  | 0 => 0
  | n + 1 => gS h n + h n
theorem gS_add (a b : Nat → Int32) : ∀ n, gS (fun k => a k + b k) n = gS a n + gS b n
  | 0 => by show (0 : Int32) = 0 + 0; rfl
  | n + 1 => by
    show gS (fun k => a k + b k) n + (a n + b n) = (gS a n + a n) + (gS b n + b n)
    rw [gS_add a b n, Int32.add_assoc, Int32.add_assoc, ← Int32.add_assoc (gS b n) (a n) (b n), Int32.add_comm (gS b n) (a n), Int32.add_assoc (a n)]
theorem gS_zero {h : Nat → Int32} : ∀ n, (∀ k, k < n → h k = 0) → gS h n = 0
  | 0, _ => rfl
  | n + 1, hz => by
    show gS h n + h n = 0
    rw [gS_zero n (fun k hk => hz k (by omega)), hz n (by omega)]
    rfl
theorem gS_one {h : Nat → Int32} {q : Nat} : ∀ n, q < n → (∀ k, k < n → k ≠ q → h k = 0) → gS h n = h q
  | 0, hq, _ => by omega
  | n + 1, hq, hz => by
    show gS h n + h n = h q
    by_cases z : q = n
    · subst z
      rw [gS_zero q (fun k hk => hz k (by omega) (by omega)), Int32.zero_add]
    · rw [gS_one n (by omega) (fun k hk hne => hz k (by omega) hne), hz n (by omega) (fun q2 => z q2.symm), Int32.add_zero]
theorem gS_eq {a b : Nat → Int32} : ∀ n, (∀ k, k < n → a k = b k) → gS a n = gS b n
  | 0, _ => rfl
  | n + 1, hz => by
    show gS a n + a n = gS b n + b n
    rw [gS_eq n (fun k hk => hz k (by omega)), hz n (by omega)]
theorem i_sub {a b : Int32} (h1 : -2147483648 ≤ a.toInt - b.toInt) (h2 : a.toInt - b.toInt < 2147483648) : (a - b).toInt = a.toInt - b.toInt := by
  rw [Int32.toInt_sub]
  exact Int.bmod_eq_of_le (by omega) (by omega)
theorem i_add {a b : Int32} (h1 : -2147483648 ≤ a.toInt + b.toInt) (h2 : a.toInt + b.toInt < 2147483648) : (a + b).toInt = a.toInt + b.toInt := by
  rw [Int32.toInt_add]
  exact Int.bmod_eq_of_le (by omega) (by omega)
theorem ring1 (p f m : Int32) : p - f - (p - m) = m - f := by
  rw [Int32.sub_eq_add_neg (p - f), Int32.sub_eq_add_neg p m, Int32.neg_add, Int32.sub_eq_add_neg (-p) (-m), Int32.neg_neg, Int32.sub_eq_add_neg p f, Int32.sub_eq_add_neg m f]
  rw [Int32.add_assoc, ← Int32.add_assoc (-f) (-p) m, Int32.add_comm (-f) (-p), Int32.add_assoc (-p), ← Int32.add_assoc p (-p), Int32.add_right_neg, Int32.zero_add, Int32.add_comm]
theorem ring2 (p m x : Int32) : p - m + x = p - (m - x) := by
  rw [Int32.sub_eq_add_neg p m, Int32.sub_eq_add_neg m x, Int32.sub_eq_add_neg p (m + -x), Int32.neg_add, Int32.sub_eq_add_neg (-m), Int32.neg_neg, Int32.add_assoc]
theorem i_0 : (0 : Int32).toInt = 0 := rfl
theorem lst_toInt {a b : Int32} : (lst a b).toInt = min a.toInt b.toInt := by
  unfold lst
  by_cases z : a < b
  · rw [if_pos z]
    rw [Int32.lt_iff_toInt_lt] at z
    omega
  · rw [if_neg z]
    rw [Int32.lt_iff_toInt_lt] at z
    omega
theorem i_ext {a b : Int32} (h : a.toInt = b.toInt) : a = b := Int32.toInt_inj.mp h
theorem i_mul {a b : Int32} {m n : Int} (ha0 : 0 ≤ a.toInt) (ha : a.toInt ≤ m) (hb0 : 0 ≤ b.toInt) (hb : b.toInt ≤ n) (hmn : m * n < 2147483648) : (a * b).toInt = a.toInt * b.toInt ∧ 0 ≤ a.toInt * b.toInt ∧ a.toInt * b.toInt ≤ m * n := by
  have h0 : 0 ≤ a.toInt * b.toInt := Int.mul_nonneg ha0 hb0
  have h1 : a.toInt * b.toInt ≤ m * n := Int.mul_le_mul ha hb hb0 (by omega)
  refine ⟨?_, h0, h1⟩
  rw [Int32.toInt_mul]
  exact Int.bmod_eq_of_le (by omega) (by omega)
/-- hours and rates in their ranges -/
def sHr (κ : cS) (w : Nat) : Prop := ∀ s, s < 20 → ¬ κ 7 w s = -1 → 0 ≤ (κ 8 w s).toInt ∧ (κ 8 w s).toInt ≤ 100 ∧ 0 ≤ (κ 9 w s).toInt ∧ (κ 9 w s).toInt ≤ 100
def sRr (κ : cS) : Prop := ∀ r k, r < 6 → k < 31 → 0 ≤ (κ 2 r k).toInt ∧ (κ 2 r k).toInt ≤ 10000
section RNG
variable {κ : cS} {nw no nt wk w : Nat}
theorem py_rng (hI : Ic nw no nt wk κ) (hw : w < nw) (hh : sHr κ w) (hr : sRr κ) {n : Nat} (hn : n < 20) (h7 : ¬ κ 7 w n = -1) : 0 ≤ (pyC κ w n).toInt ∧ (pyC κ w n).toInt ≤ 2000000 := by
  obtain ⟨-, -, -, -, -, -, a7, a8, -, -⟩ := hI
  obtain ⟨q, hq, e⟩ : ∃ q, q < 31 ∧ κ 7 w n = nI q := by
    rcases a7 w hw n hn with z | z
    · exact absurd z h7
    · exact z
  obtain ⟨r, hr3, hre⟩ := a8 w hw q hq
  obtain ⟨b1, b2, b3, b4⟩ := hh n hn h7
  obtain ⟨d1, d2⟩ := hr (2 * r) q (by omega) hq
  obtain ⟨d3, d4⟩ := hr (2 * r + 1) q (by omega) hq
  obtain ⟨m1, m2, m3⟩ := i_mul (a := κ 8 w n) (b := κ 2 (2 * r) q) b1 b2 d1 d2 (by decide)
  obtain ⟨m4, m5, m6⟩ := i_mul (a := κ 9 w n) (b := κ 2 (2 * r + 1) q) b3 b4 d3 d4 (by decide)
  unfold pyC
  rw [e, nI_clamp (n := q) (by omega), hre, nI_clamp (n := r) (by omega)]
  rw [i_add (by omega) (by omega), m1, m4]
  omega
theorem ds_rng (hI : Ic nw no nt wk κ) (hw : w < nw) (hh : sHr κ w) (hr : sRr κ) {a b : Int32} : ∀ n, n ≤ 20 → 0 ≤ (dsC κ w a b n).toInt ∧ (dsC κ w a b n).toInt ≤ 2000000 * n
  | 0, _ => by
    show 0 ≤ (0 : Int32).toInt ∧ (0 : Int32).toInt ≤ 2000000 * ((0 : Nat) : Int)
    rw [i_0]
    omega
  | n + 1, hn => by
    obtain ⟨h1, h2⟩ := ds_rng hI hw hh hr (a := a) (b := b) n (by omega)
    have ht : 0 ≤ (if ¬ κ 7 w n = -1 ∧ ¬ κ 7 w n < a ∧ ¬ b < κ 7 w n then pyC κ w n else 0).toInt ∧ (if ¬ κ 7 w n = -1 ∧ ¬ κ 7 w n < a ∧ ¬ b < κ 7 w n then pyC κ w n else 0).toInt ≤ 2000000 := by
      by_cases z : ¬ κ 7 w n = -1 ∧ ¬ κ 7 w n < a ∧ ¬ b < κ 7 w n
      · rw [if_pos z]
        exact py_rng hI hw hh hr (by omega) z.1
      · rw [if_neg z, i_0]
        omega
    show 0 ≤ (dsC κ w a b n + (if ¬ κ 7 w n = -1 ∧ ¬ κ 7 w n < a ∧ ¬ b < κ 7 w n then pyC κ w n else 0)).toInt ∧ (dsC κ w a b n + (if ¬ κ 7 w n = -1 ∧ ¬ κ 7 w n < a ∧ ¬ b < κ 7 w n then pyC κ w n else 0)).toInt ≤ 2000000 * ((n + 1 : Nat) : Int)
    rw [i_add (by omega) (by omega)]
    omega
theorem du_rng (hI : Ic nw no nt wk κ) (hw : w < nw) (hh : sHr κ w) (hr : sRr κ) {a b : Int32} : 0 ≤ (duC κ w a b).toInt ∧ (duC κ w a b).toInt ≤ 40000000 := by
  obtain ⟨k, hk, e⟩ := hI.2.2.2.2.2.1 w hw
  unfold duC
  rw [e, nI_clamp (n := k) (by omega)]
  have := ds_rng hI hw hh hr (a := a) (b := b) k hk
  omega
end RNG
/-- the slips' account -/
theorem ss_gS {κ : cS} {w : Nat} {v : Int32} : ∀ n, ssC κ w v n = v - gS (fun k => spC κ w k 0) n
  | 0 => by
    show v = v - 0
    rw [Int32.sub_zero]
  | n + 1 => by
    show ssC κ w v n - spC κ w n 0 = v - (gS (fun k => spC κ w k 0) n + spC κ w n 0)
    rw [ss_gS n, Int32.sub_eq_add_neg, Int32.sub_eq_add_neg, Int32.sub_eq_add_neg, Int32.neg_add, Int32.sub_eq_add_neg, Int32.add_assoc]
theorem cbs_eq {κ : cS} {wk w : Nat} (h : κ 4 w 2 + κ 4 w 4 = gS (fun k => spC κ w k 0) 31) : ssC κ w (duC κ w 0 (nI wk) + κ 4 w 4) 31 = clC κ wk w := by
  rw [ss_gS, ← h]
  unfold clC
  rw [Int32.sub_eq_add_neg, Int32.sub_eq_add_neg, Int32.neg_add, Int32.sub_eq_add_neg, Int32.add_assoc, ← Int32.add_assoc (κ 4 w 4), Int32.add_comm (κ 4 w 4) (-κ 4 w 2), Int32.add_assoc (-κ 4 w 2), Int32.add_right_neg, Int32.add_zero]
section PK
variable {κ : cS} {nw no nt wk w : Nat}
theorem i_div10 {g : Int32} (h : 0 ≤ g.toInt) : (g / 10).toInt = g.toInt / 10 := by
  have e10 : (10 : Int32).toInt = 10 := by decide +kernel
  rw [Int32.toInt_div, e10, Int.tdiv_eq_ediv_of_nonneg h]
  have := g.toInt_lt
  exact Int.bmod_eq_of_le (by omega) (by omega)
/-- the class's numbers behind pay -/
theorem payK_k {ev k : Nat} {g : Int32} (h : k ≠ 1 ∧ k ≠ 4 ∧ k ≠ 10 ∧ k ≠ 11 ∧ k ≠ 12 ∧ k ≠ 13 ∧ k ≠ 14 ∧ k ≠ 15) : payK κ no wk w ev g k = κ k := by
  obtain ⟨h1, h4, h10, h11, h12, h13, h14, h15⟩ := h
  unfold payK slK
  funext b
  rw [upF_k h14, upF_k h13, upF_k h12, upF_k h11, upF_k h10, oK_pgC.1 k h15, pyK_k h1 h4]
theorem payK_1 {ev : Nat} {g : Int32} : payK κ no wk w ev g 1 = pyK κ w ev g 1 := by
  unfold payK
  rw [slK_1, oK_pgC.1 1 (by decide)]
theorem payK_4 {ev : Nat} {g : Int32} : payK κ no wk w ev g 4 = pyK κ w ev g 4 := by
  unfold payK
  rw [slK_4, oK_pgC.1 4 (by decide)]
theorem payK_15 {ev : Nat} {g : Int32} : payK κ no wk w ev g 15 = (pgC κ no w ev g).1 15 := by
  unfold payK
  rw [slK_15]
theorem payK_i {ev k i : Nat} {g : Int32} (h : i ≠ w) (h1 : k ≠ 1) (h15 : k ≠ 15) : payK κ no wk w ev g k i = κ k i := by
  unfold payK
  rw [slK_i h, oK_pgC.1 k h15]
  by_cases z : k = 4
  · rw [z, pyK_i h]
  · rw [pyK_k h1 z]
end PK
theorem i_neg {a : Int32} (h : -2147483648 < a.toInt) : (-a).toInt = -a.toInt := by
  have := a.toInt_lt
  rw [Int32.toInt_neg]
  exact Int.bmod_eq_of_le (by omega) (by omega)
theorem ring3 (d r : Int32) : r - -(d - r) = d := by
  rw [Int32.sub_eq_add_neg r, Int32.neg_neg, Int32.sub_eq_add_neg, Int32.add_comm d, ← Int32.add_assoc, Int32.add_right_neg, Int32.zero_add]
theorem ring4 (r c : Int32) : r - -c = r + c := by rw [Int32.sub_eq_add_neg, Int32.neg_neg]
theorem ring5 (r e c : Int32) : (r - -c) + (e + -c) = r + e := by
  rw [ring4, Int32.add_assoc, Int32.add_comm e, ← Int32.add_assoc c, Int32.add_right_neg, Int32.zero_add]
theorem ring6 (a c t : Int32) : a - c + t = a + (t - c) := by
  rw [Int32.sub_eq_add_neg, Int32.sub_eq_add_neg, Int32.add_assoc, Int32.add_comm (-c)]
theorem ring7 (d r : Int32) : r + (d - r) = d := by
  rw [Int32.sub_eq_add_neg, Int32.add_comm d, ← Int32.add_assoc, Int32.add_right_neg, Int32.zero_add]
theorem ring8 (r c e : Int32) : (r + c) + e = (r + e) + c := by
  rw [Int32.add_assoc, Int32.add_comm c, ← Int32.add_assoc]
theorem gS_up {h h2 : Nat → Int32} {q n : Nat} {c : Int32} (hq : q < n) (h0 : h q = 0) (h1 : h2 q = c) (he : ∀ k, k ≠ q → h2 k = h k) : gS h2 n = gS h n + c := by
  have e : gS h2 n = gS (fun k => h k + (if k = q then c else 0)) n := gS_eq n (fun k _ => by
    by_cases z : k = q
    · subst z
      show h2 k = h k + (if k = k then c else 0)
      rw [if_pos rfl, h0, h1, Int32.zero_add]
    · show h2 k = h k + (if k = q then c else 0)
      rw [if_neg z, he k z, Int32.add_zero])
  rw [e, gS_add, gS_one (h := fun k => if k = q then c else 0) n hq (fun k _ hne => if_neg hne)]
  show gS h n + (if q = q then c else 0) = _
  rw [if_pos rfl]
theorem csC_end {κ : cS} {nw no wk : Nat} : ∀ d, csC κ nw no wk (nw + d) = csC κ nw no wk nw
  | 0 => rfl
  | d + 1 => by
    have e : csC κ nw no wk (nw + (d + 1)) = csC κ nw no wk (nw + d) := by
      show (if nw + d < nw then _ else _) = _
      exact if_neg (by omega)
    rw [e]
    exact csC_end d
theorem tlV_out {t : Nat → Int32} {v : Int32} : ∀ (n i : Nat) (g : Nat → Int32) (k : Nat), k < i → tlV t v n i g k = g k
  | 0, _, _, _, _ => rfl
  | n + 1, i, g, k, hk => by
    unfold tlV
    by_cases z : t i = 0
    · rw [if_pos z, tlV_out n (i + 1) (va_up g i v) k (by omega), va_up_n (by omega)]
    · rw [if_neg z]
theorem tlV_in {t : Nat → Int32} {v : Int32} : ∀ (n i : Nat) (g : Nat → Int32) (k : Nat), i ≤ k → k < i + n → (∀ j, i ≤ j → j ≤ k → t j = 0) → tlV t v n i g k = v
  | 0, i, _, k, h1, h2, _ => by omega
  | n + 1, i, g, k, h1, h2, hz => by
    unfold tlV
    rw [if_pos (hz i (Nat.le_refl _) h1)]
    by_cases q : k = i
    · subst q
      rw [tlV_out n (k + 1) _ k (by omega), va_up_s]
    · exact tlV_in n (i + 1) _ k (by omega) (by omega) (fun j h3 h4 => hz j (by omega) h4)
theorem tlV_no {t : Nat → Int32} {v : Int32} : ∀ (n i : Nat) (g : Nat → Int32) (k j : Nat), i ≤ j → j ≤ k → ¬ t j = 0 → tlV t v n i g k = g k
  | 0, _, _, _, _, _, _, _ => rfl
  | n + 1, i, g, k, j, h1, h2, hj => by
    unfold tlV
    by_cases z : t i = 0
    · have hij : i ≠ j := fun q => hj (by rw [← q]; exact z)
      rw [if_pos z, tlV_no n (i + 1) (va_up g i v) k j (by omega) h2 hj, va_up_n (by omega)]
    · rw [if_neg z]
