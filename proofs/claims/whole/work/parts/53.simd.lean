/-! RANGES of the dues -/
theorem i_mul {a b : Int32} {m n : Int} (ha0 : 0 ≤ a.toInt) (ha : a.toInt ≤ m) (hb0 : 0 ≤ b.toInt) (hb : b.toInt ≤ n) (hmn : m * n < 2147483648) : (a * b).toInt = a.toInt * b.toInt ∧ 0 ≤ a.toInt * b.toInt ∧ a.toInt * b.toInt ≤ m * n := by
  have h0 : 0 ≤ a.toInt * b.toInt := Int.mul_nonneg ha0 hb0
  have h1 : a.toInt * b.toInt ≤ m * n := Int.mul_le_mul ha hb hb0 (by omega)
  refine ⟨?_, h0, h1⟩
  rw [Int32.toInt_mul]
  exact Int.bmod_eq_of_le (by omega) (by omega)
/-- hours and rates in their ranges -/
def sHr (κ : cS) (w : Nat) : Prop := ∀ s, s < 20 → ¬ κ 7 w s = -1 → 0 ≤ (κ 8 w s).toInt ∧ (κ 8 w s).toInt ≤ 100 ∧ 0 ≤ (κ 9 w s).toInt ∧ (κ 9 w s).toInt ≤ 100
def sRr (κ : cS) : Prop := ∀ r k, r < 6 → k < 31 → 0 ≤ (κ 2 r k).toInt ∧ (κ 2 r k).toInt ≤ 10000
section RNG
variable {κ : cS} {nw no nt wk w : Nat}
theorem py_rng (hI : Ic nw no nt wk κ) (hw : w < nw) (hh : sHr κ w) (hr : sRr κ) {n : Nat} (hn : n < 20) (h7 : ¬ κ 7 w n = -1) : 0 ≤ (pyC κ w n).toInt ∧ (pyC κ w n).toInt ≤ 2000000 := by
  obtain ⟨-, -, -, -, -, -, a7, a8, -, -⟩ := hI
  obtain ⟨q, hq, e⟩ : ∃ q, q < 31 ∧ κ 7 w n = nI q := by
    rcases a7 w hw n hn with z | z
    · exact absurd z h7
    · exact z
  obtain ⟨r, hr3, hre⟩ := a8 w hw q hq
  obtain ⟨b1, b2, b3, b4⟩ := hh n hn h7
  obtain ⟨d1, d2⟩ := hr (2 * r) q (by omega) hq
  obtain ⟨d3, d4⟩ := hr (2 * r + 1) q (by omega) hq
  obtain ⟨m1, m2, m3⟩ := i_mul (a := κ 8 w n) (b := κ 2 (2 * r) q) b1 b2 d1 d2 (by decide)
  obtain ⟨m4, m5, m6⟩ := i_mul (a := κ 9 w n) (b := κ 2 (2 * r + 1) q) b3 b4 d3 d4 (by decide)
  unfold pyC
  rw [e, nI_clamp (n := q) (by omega), hre, nI_clamp (n := r) (by omega)]
  rw [i_add (by omega) (by omega), m1, m4]
  omega
theorem ds_rng (hI : Ic nw no nt wk κ) (hw : w < nw) (hh : sHr κ w) (hr : sRr κ) {a b : Int32} : ∀ n, n ≤ 20 → 0 ≤ (dsC κ w a b n).toInt ∧ (dsC κ w a b n).toInt ≤ 2000000 * n
  | 0, _ => by
    show 0 ≤ (0 : Int32).toInt ∧ (0 : Int32).toInt ≤ 2000000 * ((0 : Nat) : Int)
    rw [i_0]
    omega
  | n + 1, hn => by
    obtain ⟨h1, h2⟩ := ds_rng hI hw hh hr (a := a) (b := b) n (by omega)
    have ht : 0 ≤ (if ¬ κ 7 w n = -1 ∧ ¬ κ 7 w n < a ∧ ¬ b < κ 7 w n then pyC κ w n else 0).toInt ∧ (if ¬ κ 7 w n = -1 ∧ ¬ κ 7 w n < a ∧ ¬ b < κ 7 w n then pyC κ w n else 0).toInt ≤ 2000000 := by
      by_cases z : ¬ κ 7 w n = -1 ∧ ¬ κ 7 w n < a ∧ ¬ b < κ 7 w n
      · rw [if_pos z]
        exact py_rng hI hw hh hr (by omega) z.1
      · rw [if_neg z, i_0]
        omega
    show 0 ≤ (dsC κ w a b n + (if ¬ κ 7 w n = -1 ∧ ¬ κ 7 w n < a ∧ ¬ b < κ 7 w n then pyC κ w n else 0)).toInt ∧ (dsC κ w a b n + (if ¬ κ 7 w n = -1 ∧ ¬ κ 7 w n < a ∧ ¬ b < κ 7 w n then pyC κ w n else 0)).toInt ≤ 2000000 * ((n + 1 : Nat) : Int)
    rw [i_add (by omega) (by omega)]
    omega
theorem du_rng (hI : Ic nw no nt wk κ) (hw : w < nw) (hh : sHr κ w) (hr : sRr κ) {a b : Int32} : 0 ≤ (duC κ w a b).toInt ∧ (duC κ w a b).toInt ≤ 40000000 := by
  obtain ⟨k, hk, e⟩ := hI.2.2.2.2.2.1 w hw
  unfold duC
  rw [e, nI_clamp (n := k) (by omega)]
  have := ds_rng hI hw hh hr (a := a) (b := b) k hk
  omega
end RNG
/-- the slips' account -/
theorem ss_gS {κ : cS} {w : Nat} {v : Int32} : ∀ n, ssC κ w v n = v - gS (fun k => spC κ w k 0) n
  | 0 => by
    show v = v - 0
    rw [Int32.sub_zero]
  | n + 1 => by
    show ssC κ w v n - spC κ w n 0 = v - (gS (fun k => spC κ w k 0) n + spC κ w n 0)
    rw [ss_gS n, Int32.sub_eq_add_neg, Int32.sub_eq_add_neg, Int32.sub_eq_add_neg, Int32.neg_add, Int32.sub_eq_add_neg, Int32.add_assoc]
theorem cbs_eq {κ : cS} {wk w : Nat} (h : κ 4 w 2 + κ 4 w 4 = gS (fun k => spC κ w k 0) 31) : ssC κ w (duC κ w 0 (nI wk) + κ 4 w 4) 31 = clC κ wk w := by
  rw [ss_gS, ← h]
  unfold clC
  rw [Int32.sub_eq_add_neg, Int32.sub_eq_add_neg, Int32.neg_add, Int32.sub_eq_add_neg, Int32.add_assoc, ← Int32.add_assoc (κ 4 w 4), Int32.add_comm (κ 4 w 4) (-κ 4 w 2), Int32.add_assoc (-κ 4 w 2), Int32.add_right_neg, Int32.add_zero]
/-! THE WHOLE RELATION -/
/-- worker w; v: the first week with no slip yet -/
def sW (μ : mS) (κ : cS) (w v : Nat) : Prop := κ 4 w 0 = μ 3 w ∧ κ 4 w 1 = nI (cnM μ w) ∧ κ 4 w 2 = μ 10 w ∧ κ 4 w 3 = μ 11 w ∧ (0 ≤ (κ 4 w 2).toInt ∧ (κ 4 w 2).toInt ≤ 40000000) ∧ (0 ≤ (κ 4 w 3).toInt ∧ (κ 4 w 3).toInt ≤ 40000000 * v) ∧ sRl (κ 5 w) (κ 6 w) (μ 4) (31 * w) ∧ sSh μ κ w ∧ sHr κ w ∧ (∀ k p, k < 31 → p < 4 → spC κ w k p = μ 12 (4 * (31 * w + k) + p)) ∧ (∀ k, v ≤ k → k < 31 → ¬ κ 10 w k = 1) ∧ κ 4 w 2 + κ 4 w 4 = gS (fun k => spC κ w k 0) 31
/-- a worker that is not there yet -/
def sN (μ : mS) (w : Nat) : Prop := (∀ s, s < 20 → μ 7 (20 * w + s) = -1) ∧ μ 10 w = 0 ∧ μ 11 w = 0 ∧ (∀ k p, k < 31 → p < 4 → μ 12 (4 * (31 * w + k) + p) = 0) ∧ sRl (fillv 0 31) (fun _ => 0) (μ 4) (31 * w)
def sRates (μ : mS) (κ : cS) : Prop := (∀ r, r < 3 → sRl (κ 2 (2 * r)) (κ 3 (2 * r)) (μ 5) (31 * r) ∧ sRl (κ 2 (2 * r + 1)) (κ 3 (2 * r + 1)) (μ 6) (31 * r)) ∧ (∀ i, μ 5 i = -1 ↔ μ 6 i = -1) ∧ sRr κ
def sOrd (μ : mS) (κ : cS) (no : Nat) : Prop := (∀ i, i < no → κ 15 i 0 = μ 14 i ∧ κ 15 i 1 = μ 15 i ∧ κ 15 i 2 = μ 16 i ∧ κ 15 i 3 = μ 17 i ∧ 0 ≤ (μ 16 i).toInt ∧ 0 ≤ (μ 17 i).toInt) ∧ κ 0 0 0 = μ 18 0 ∧ 0 ≤ (μ 18 0).toInt ∧ (μ 18 0).toInt ≤ 10000000
def sPot (μ : mS) (κ : cS) (nt : Nat) : Prop := (∀ e, e < 3 → κ 1 e 0 = μ 19 e ∧ κ 1 e 1 = μ 20 e) ∧ (∀ i, i < nt → κ 16 i 0 = μ 22 i ∧ κ 16 i 1 = μ 23 i ∧ κ 16 i 2 = μ 24 i) ∧ ∀ i, nt ≤ i → i < 40 → μ 24 i = 0
def Sim (μ : mS) (κ : cS) (nw no nt wk : Nat) : Prop := Im μ nw wk no nt ∧ Ic nw no nt wk κ ∧ (∀ w, w < nw → sW μ κ w wk) ∧ (∀ w, nw ≤ w → w < 8 → sN μ w) ∧ sRates μ κ ∧ sOrd μ κ no ∧ sPot μ κ nt
theorem sRates.rt {μ : mS} {κ : cS} (h : sRates μ κ) : sRt μ κ := by
  intro r k hr hk
  obtain ⟨h1, h2, -⟩ := h
  obtain ⟨a, b⟩ := h1 r hr
  refine ⟨a.1 k hk, ?_⟩
  rw [tld_cg h2]
  exact b.1 k hk
theorem sW.cl {μ : mS} {κ : cS} {nw no nt wk w v : Nat} (hI : Ic nw no nt wk κ) (hM : Im μ nw wk no nt) (hw : w < nw) (h : sW μ κ w v) (hr : sRates μ κ) : clC κ wk w = clM μ w := by
  obtain ⟨-, h1, h2, -, -, -, h6, h7, -⟩ := h
  exact cl_eq hI hw h6.1 hr.rt h7 h1 h2 hM.2.2.1
