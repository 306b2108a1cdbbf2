/-! THE CLASS AND THE REFERENCE SIDE BY SIDE: the dues -/
def gS (h : Nat → Int32) : Nat → Int32
  | 0 => 0
  | n + 1 => gS h n + h n
theorem gS_add (a b : Nat → Int32) : ∀ n, gS (fun k => a k + b k) n = gS a n + gS b n
  | 0 => by show (0 : Int32) = 0 + 0; rfl
  | n + 1 => by
    show gS (fun k => a k + b k) n + (a n + b n) = (gS a n + a n) + (gS b n + b n)
    rw [gS_add a b n, Int32.add_assoc, Int32.add_assoc, ← Int32.add_assoc (gS b n) (a n) (b n), Int32.add_comm (gS b n) (a n), Int32.add_assoc (a n)]
theorem gS_zero {h : Nat → Int32} : ∀ n, (∀ k, k < n → h k = 0) → gS h n = 0
  | 0, _ => rfl
  | n + 1, hz => by
    show gS h n + h n = 0
    rw [gS_zero n (fun k hk => hz k (by omega)), hz n (by omega)]
    rfl
theorem gS_one {h : Nat → Int32} {q : Nat} : ∀ n, q < n → (∀ k, k < n → k ≠ q → h k = 0) → gS h n = h q
  | 0, hq, _ => by omega
  | n + 1, hq, hz => by
    show gS h n + h n = h q
    by_cases z : q = n
    · subst z
      rw [gS_zero q (fun k hk => hz k (by omega) (by omega)), Int32.zero_add]
    · rw [gS_one n (by omega) (fun k hk hne => hz k (by omega) hne), hz n (by omega) (fun q2 => z q2.symm), Int32.add_zero]
theorem gS_eq {a b : Nat → Int32} : ∀ n, (∀ k, k < n → a k = b k) → gS a n = gS b n
  | 0, _ => rfl
  | n + 1, hz => by
    show gS a n + a n = gS b n + b n
    rw [gS_eq n (fun k hk => hz k (by omega)), hz n (by omega)]
theorem csM_gS {μ : mS} {w : Nat} : ∀ n, csM μ w n = gS (duM μ w) n
  | 0 => rfl
  | n + 1 => by
    show csM μ w n + duM μ w n = gS (duM μ w) n + duM μ w n
    rw [csM_gS n]
/-- ranks, rates and sheets agree -/
def sRk (μ : mS) (κ : cS) (w : Nat) : Prop := ∀ k, k < 31 → κ 5 w k = rkM μ w k
def sRt (μ : mS) (κ : cS) : Prop := ∀ r k, r < 3 → k < 31 → κ 2 (2 * r) k = μ 5 (tld (μ 5) (31 * r + k)) ∧ κ 2 (2 * r + 1) k = μ 6 (tld (μ 5) (31 * r + k))
def sSh (μ : mS) (κ : cS) (w : Nat) : Prop := ∀ s, s < 20 → κ 7 w s = μ 7 (20 * w + s) ∧ (¬ κ 7 w s = -1 → κ 8 w s = μ 8 (20 * w + s) ∧ κ 9 w s = μ 9 (20 * w + s))
/-- the place of the rates of week k, for worker w -/
def rqM (μ : mS) (w k : Nat) : Nat := tld (μ 5) (31 * (rkM μ w k).toNatClampNeg + k)
/-- what sheet n of w adds to week k -/
def tmM (μ : mS) (w n k : Nat) : Int32 := if μ 7 (20 * w + n) = nI k then μ 8 (20 * w + n) * μ 5 (rqM μ w k) + μ 9 (20 * w + n) * μ 6 (rqM μ w k) else 0
theorem dsM_s {μ : mS} {w k n : Nat} : dsM μ w k (rqM μ w k) (n + 1) = dsM μ w k (rqM μ w k) n + tmM μ w n k := rfl
section DUE
variable {μ : mS} {κ : cS} {nw no nt wk w : Nat}
theorem pyC_eq (hI : Ic nw no nt wk κ) (hw : w < nw) (hr : sRk μ κ w) (ht : sRt μ κ) (hs : sSh μ κ w) {n q : Nat} (hn : n < 20) (hq : q < 31) (he : κ 7 w n = nI q) : pyC κ w n = μ 8 (20 * w + n) * μ 5 (rqM μ w q) + μ 9 (20 * w + n) * μ 6 (rqM μ w q) := by
  obtain ⟨-, -, -, -, -, -, -, a8, -, -⟩ := hI
  obtain ⟨r, hr3, hre⟩ := a8 w hw q hq
  obtain ⟨s1, s2⟩ := hs n hn
  obtain ⟨s3, s4⟩ := s2 (by rw [he]; exact nI_nm1 (by omega))
  obtain ⟨t1, t2⟩ := ht r q hr3 hq
  have hrk : rkM μ w q = nI r := (hr q hq).symm.trans hre
  unfold pyC rqM
  rw [he, nI_clamp (n := q) (by omega), hre, nI_clamp (n := r) (by omega), s3, s4, t1, t2, hrk, nI_clamp (n := r) (by omega)]
theorem tm_one (hI : Ic nw no nt wk κ) (hw : w < nw) (hr : sRk μ κ w) (ht : sRt μ κ) (hs : sSh μ κ w) {n k : Nat} (hn : n < 20) (hk : k < 31) : (if ¬ κ 7 w n = -1 ∧ ¬ κ 7 w n < nI k ∧ ¬ nI k < κ 7 w n then pyC κ w n else 0) = tmM μ w n k := by
  have h7 := hI.2.2.2.2.2.2.1 w hw n hn
  obtain ⟨s1, -⟩ := hs n hn
  unfold tmM
  rw [← s1]
  rcases h7 with z | ⟨q, hq, z⟩
  · rw [z, if_neg (fun t => t.1 rfl), if_neg (fun t => nI_nm1 (by omega) t.symm)]
  · by_cases e : q = k
    · subst e
      rw [if_pos (show ¬ κ 7 w n = -1 ∧ ¬ κ 7 w n < nI q ∧ ¬ nI q < κ 7 w n by rw [z]; exact ⟨nI_nm1 (by omega), Int32.lt_irrefl, Int32.lt_irrefl⟩), if_pos z]
      exact pyC_eq hI hw hr ht hs hn hq z
    · rw [if_neg (show ¬ (¬ κ 7 w n = -1 ∧ ¬ κ 7 w n < nI k ∧ ¬ nI k < κ 7 w n) from fun t => by
        rw [z] at t
        rcases Nat.lt_or_ge q k with h | h
        · exact t.2.1 (nI_lt h (by omega))
        · exact t.2.2 (nI_lt (show k < q by omega) (by omega))), if_neg (fun t => e (nI_inj2 (z.symm.trans t) (by omega) (by omega)))]
theorem ds_one (hI : Ic nw no nt wk κ) (hw : w < nw) (hr : sRk μ κ w) (ht : sRt μ κ) (hs : sSh μ κ w) {k : Nat} (hk : k < 31) : ∀ n, n ≤ 20 → dsC κ w (nI k) (nI k) n = dsM μ w k (rqM μ w k) n
  | 0, _ => rfl
  | n + 1, hn => by
    rw [dsM_s, ← ds_one hI hw hr ht hs hk n (by omega), ← tm_one hI hw hr ht hs (show n < 20 by omega) hk]
    rfl
theorem du_one (hI : Ic nw no nt wk κ) (hw : w < nw) (hr : sRk μ κ w) (ht : sRt μ κ) (hs : sSh μ κ w) (hc : κ 4 w 1 = nI (cnM μ w)) {k : Nat} (hk : k < 31) : duC κ w (nI k) (nI k) = duM μ w k := by
  have h20 := cnM_le μ w
  unfold duC
  rw [hc, nI_clamp (n := cnM μ w) (by omega), ds_one hI hw hr ht hs hk (cnM μ w) h20]
  rfl
theorem ds_all (hI : Ic nw no nt wk κ) (hw : w < nw) (hr : sRk μ κ w) (ht : sRt μ κ) (hs : sSh μ κ w) : ∀ n, n ≤ 20 → dsC κ w 0 (nI wk) n = gS (fun k => dsM μ w k (rqM μ w k) n) (min (wk + 1) 31)
  | 0, _ => (gS_zero _ (fun _ _ => rfl)).symm
  | n + 1, hn => by
    have hwk : wk ≤ 31 := hI.2.2.2.1
    have h7 := hI.2.2.2.2.2.2.1 w hw n (by omega)
    obtain ⟨s1, -⟩ := hs n (by omega)
    have e1 : gS (fun k => dsM μ w k (rqM μ w k) (n + 1)) (min (wk + 1) 31) = gS (fun k => dsM μ w k (rqM μ w k) n) (min (wk + 1) 31) + gS (tmM μ w n) (min (wk + 1) 31) := by
      rw [← gS_add]
      rfl
    rw [e1, ← ds_all hI hw hr ht hs n (by omega)]
    have e2 : (if ¬ κ 7 w n = -1 ∧ ¬ κ 7 w n < 0 ∧ ¬ nI wk < κ 7 w n then pyC κ w n else 0) = gS (tmM μ w n) (min (wk + 1) 31) := by
      rcases h7 with z | ⟨q, hq, z⟩
      · rw [z, if_neg (fun t => t.1 rfl)]
        refine (gS_zero _ (fun k hk => ?_)).symm
        unfold tmM
        rw [← s1, z, if_neg (fun t => nI_nm1 (by omega) t.symm)]
      · by_cases e : q ≤ wk
        · rw [if_pos (show ¬ κ 7 w n = -1 ∧ ¬ κ 7 w n < 0 ∧ ¬ nI wk < κ 7 w n by
            rw [z]
            exact ⟨nI_nm1 (by omega), Int32.not_lt.mpr (nI_pos' (by omega)), Int32.not_lt.mpr (nI_le e (by omega))⟩)]
          rw [gS_one (q := q) (min (wk + 1) 31) (by omega) (fun k hk hne => ?_)]
          · unfold tmM
            rw [← s1, if_pos z]
            exact pyC_eq hI hw hr ht hs (by omega) hq z
          · unfold tmM
            rw [← s1, if_neg (fun t => hne (nI_inj2 (z.symm.trans t) (by omega) (by omega)).symm)]
        · rw [if_neg (show ¬ (¬ κ 7 w n = -1 ∧ ¬ κ 7 w n < 0 ∧ ¬ nI wk < κ 7 w n) from fun t => t.2.2 (by rw [z]; exact nI_lt (show wk < q by omega) (by omega)))]
          refine (gS_zero _ (fun k hk => ?_)).symm
          unfold tmM
          rw [← s1, if_neg (fun t => by have := nI_inj2 (z.symm.trans t) (by omega) (by omega); omega)]
    rw [← e2]
    rfl
/-- the claims -/
theorem cl_eq (hI : Ic nw no nt wk κ) (hw : w < nw) (hr : sRk μ κ w) (ht : sRt μ κ) (hs : sSh μ κ w) (hc : κ 4 w 1 = nI (cnM μ w)) (h2 : κ 4 w 2 = μ 10 w) (hwk : μ 1 0 = nI wk) : clC κ wk w = clM μ w := by
  have h20 := cnM_le μ w
  have h31 : wk ≤ 31 := hI.2.2.2.1
  unfold clC clM duC
  rw [hc, nI_clamp (n := cnM μ w) (by omega), ds_all hI hw hr ht hs (cnM μ w) h20, h2, hwk, nI_clamp (n := wk) (by omega), csM_gS]
  rfl
end DUE
