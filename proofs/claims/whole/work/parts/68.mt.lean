section MT
/-- what a step of the law leaves: class and reference in the relation, the same throw, the same answer -/
def mT (y : Nat → ClassId) (o x0 : Nat) (β : Nat → Nat) (k b : Int32) (f1 f2 : fw_F) : Prop := ∃ μ κ nw no nt wk α fc gl, Sim μ κ nw no nt wk ∧ Rc y nw no nt wk κ α fc ∧ α 0 0 0 = x0 ∧ Rm y μ β f2 ∧ fw_dis fc (oC y o gl) ∧ f1 = fw_or fc (oC y o gl) ∧ μ 0 0 = k ∧ (k = 0 → gl 0 = b.toInt64)
theorem oU_0 {gl : Nat → Int64} {r : Int32} : oU gl r 0 = r.toInt64 := pk_uLs
variable {y : Nat → ClassId} {o x0 : Nat} {β : Nat → Nat} {f f1 f2 fc1 : fw_F} {gl : Nat → Int64} {μ : mS} {κ : cS} {nw no nt wk : Nat} {α : Nat → Nat → Nat → Nat} {k b : Int32}
theorem mT.err (hS : Sim μ κ nw no nt wk) (hR : Rc y nw no nt wk κ α f) (hd : fw_dis f (oC y o gl)) (e : Int32) (he : ¬ e = 0) (hm : Rm y (up2 μ 0 0 e) β f2) : mT y o (α 0 0 0) β e b (fw_or f (oC y o gl)) f2 :=
  ⟨up2 μ 0 0 e, κ, nw, no, nt, wk, α, f, gl, hS.err e, hR, rfl, hm, hd, rfl, by rw [up2_s, va_up_s], fun z => absurd z he⟩
theorem mT.ok {r : Int32} (hS : Sim μ κ nw no nt wk) (hR : Rc y nw no nt wk κ α fc1) (hα : α 0 0 0 = x0) (hm : Rm y μ β f2) (h0 : μ 0 0 = 0) (hrb : r = b) (hd : fw_dis fc1 (oC y o (oU gl r))) : mT y o x0 β 0 b (fw_or fc1 (oC y o (oU gl r))) f2 :=
  ⟨μ, κ, nw, no, nt, wk, α, fc1, oU gl r, hS, hR, hα, hm, hd, rfl, h0, fun _ => by rw [← hrb]; exact oU_0⟩
theorem stM_0 {i : Nat} : stM μ wk no i 0 = μ 0 := by
  unfold stM
  by_cases z : clM μ i < 0
  · rw [if_pos z, up2_n (by decide), up2_n (by decide)]
  · rw [if_neg z]
    by_cases z2 : 0 < clM μ i ∧ clM μ i ≤ μ 19 (μ 3 i).toNatClampNeg
    · rw [if_pos z2, pyM_k (by decide)]
    · rw [if_neg z2]
theorem csA_0 : ∀ i, (csA μ wk no i).1 0 = μ 0
  | 0 => rfl
  | i + 1 => by
    show stM (csA μ wk no i).1 wk no i 0 = μ 0
    rw [stM_0, csA_0 i]
set_option maxHeartbeats 4000000 in
theorem mt_addWorker (hS : Sim μ κ nw no nt wk) (hR : Rc y nw no nt wk κ α f) (hd : fw_dis f (oC y o gl)) {p0 : Int32} (hA : (fun k f1 => (k = 1 ∧ (fun E => (E = nIOB ∧ ¬ inr p0 0 2) ∨ (E = nISE ∧ inr p0 0 2 ∧ nw = 8)) nIOB ∧ f1 = fw_or f (oC y o gl)) ∨ (k = 2 ∧ (fun E => (E = nIOB ∧ ¬ inr p0 0 2) ∨ (E = nISE ∧ inr p0 0 2 ∧ nw = 8)) nISE ∧ f1 = fw_or f (oC y o gl)) ∨ (k = 0 ∧ ∃ r fc1, (fun r f1 => ∃ ev α2, ev < 3 ∧ p0 = nI ev ∧ nw < 8 ∧ r = nI nw ∧ α2 0 0 0 = α 0 0 0 ∧ Rc y (nw + 1) no nt wk (nwK κ nw ev) α2 f1) r fc1 ∧ fw_dis fc1 (oC y o (oU gl r)) ∧ f1 = fw_or fc1 (oC y o (oU gl r)))) k f1) (hB : (fun r f1 => (¬ inr p0 0 2 ∧ r = 0 ∧ Rm y (up2 μ 0 0 1) β f1) ∨ (inr p0 0 2 ∧ nI nw = 8 ∧ r = 0 ∧ Rm y (up2 μ 0 0 2) β f1) ∨ (inr p0 0 2 ∧ ¬ nI nw = 8 ∧ r = nI nw ∧ Rm y (up2 (up2 (up2 μ 0 0 0) 3 nw p0) 2 0 (nI (nw + 1))) β f1)) b f2) : mT y o (α 0 0 0) β k b f1 f2 := by
  have h0 := hS.err 0
  obtain ⟨hn8, hn20, hn40, hn31, -⟩ := id hS.2.1
  rcases hA with ⟨rfl, t, rfl⟩ | ⟨rfl, t, rfl⟩ | ⟨rfl, r, fc1, hp, hd1, rfl⟩
  · have T : (¬ (inr p0 0 2)) := by
      rcases t with ⟨e, c⟩ | ⟨e, a1, c⟩
      · exact c
      · exact absurd e (by decide)
    have F0 := T
    rcases hB with m1 | m2 | m3
    · obtain ⟨c, -, hm⟩ := m1
      exact mT.err hS hR hd 1 (by decide) hm
    · obtain ⟨a1, c, -, hm⟩ := m2
      have g : inr p0 0 2 := a1
      exact absurd g F0
    · obtain ⟨a1, nn, hb, hm⟩ := m3
      have g : inr p0 0 2 := a1
      exact absurd g F0
  · have T : (inr p0 0 2) ∧ (nw = 8) := by
      rcases t with ⟨e, c⟩ | ⟨e, a1, c⟩
      · exact absurd e (by decide)
      · exact ⟨a1, c⟩
    obtain ⟨F0, F1⟩ := T
    rcases hB with m1 | m2 | m3
    · obtain ⟨c, -, hm⟩ := m1
      have g : ¬ (inr p0 0 2) := c
      exact absurd F0 g
    · obtain ⟨a1, c, -, hm⟩ := m2
      exact mT.err hS hR hd 2 (by decide) hm
    · obtain ⟨a1, nn, hb, hm⟩ := m3
      have g : ¬ (nw = 8) := fun z => nn (by rw [z]; rfl)
      exact absurd F1 g
  · obtain ⟨ev, α2, he, e0, hn, hr, hα, hR2⟩ := hp
    have F0 : inr p0 0 2 := by rw [e0]; exact inr_nI (n := 2) (by omega) (by decide)
    have F1 : ¬ (nw = 8) := by omega
    rcases hB with m1 | m2 | m3
    · obtain ⟨c, -, hm⟩ := m1
      have g : ¬ (inr p0 0 2) := c
      exact absurd F0 g
    · obtain ⟨a1, c, -, hm⟩ := m2
      have g : nw = 8 := nI_inj2 (b := 8) c (by omega) (by decide)
      exact absurd g F1
    · obtain ⟨a1, nn, hb, hm⟩ := m3
      exact mT.ok (sim_addWorker hS he e0 hn) hR2 hα hm (by rw [up2_n (by decide), up2_n (by decide), up2_s, va_up_s]) (hr.trans hb.symm) hd1
set_option maxHeartbeats 4000000 in
theorem mt_setRank (hS : Sim μ κ nw no nt wk) (hR : Rc y nw no nt wk κ α f) (hd : fw_dis f (oC y o gl)) {p0 p1 p2 : Int32} (hA : (fun k f1 => (k = 1 ∧ (fun E => (E = nIOB ∧ ¬ (inr p0 0 (nI nw - 1) ∧ inr p2 0 2)) ∨ (E = nIAE ∧ inr p0 0 (nI nw - 1) ∧ inr p2 0 2 ∧ ¬ inr p1 0 30)) nIOB ∧ f1 = fw_or f (oC y o gl)) ∨ (k = 2 ∧ (fun E => (E = nIOB ∧ ¬ (inr p0 0 (nI nw - 1) ∧ inr p2 0 2)) ∨ (E = nIAE ∧ inr p0 0 (nI nw - 1) ∧ inr p2 0 2 ∧ ¬ inr p1 0 30)) nIAE ∧ f1 = fw_or f (oC y o gl)) ∨ (k = 0 ∧ ∃ r fc1, (fun r f1 => ∃ w kv rv, w < nw ∧ kv ≤ 30 ∧ rv < 3 ∧ p0 = nI w ∧ p1 = nI kv ∧ p2 = nI rv ∧ r = κ 5 w kv ∧ Rc y nw no nt wk (tellK κ 5 6 w kv p2) α f1) r fc1 ∧ fw_dis fc1 (oC y o (oU gl r)) ∧ f1 = fw_or fc1 (oC y o (oU gl r)))) k f1) (hB : (fun r f1 => (¬ (inr p0 0 (nI nw - 1) ∧ inr p2 0 2) ∧ r = 0 ∧ Rm y (up2 μ 0 0 1) β f1) ∨ (inr p0 0 (nI nw - 1) ∧ inr p2 0 2 ∧ ¬ inr p1 0 30 ∧ r = 0 ∧ Rm y (up2 μ 0 0 2) β f1) ∨ (∃ wv kv, wv < nw ∧ kv ≤ 30 ∧ p0 = nI wv ∧ p1 = nI kv ∧ inr p2 0 2 ∧ r = μ 4 (tld (μ 4) (31 * wv + kv)) ∧ Rm y (up2 (up2 μ 0 0 0) 4 (31 * wv + kv) p2) β f1)) b f2) : mT y o (α 0 0 0) β k b f1 f2 := by
  have h0 := hS.err 0
  obtain ⟨hn8, hn20, hn40, hn31, -⟩ := id hS.2.1
  rcases hA with ⟨rfl, t, rfl⟩ | ⟨rfl, t, rfl⟩ | ⟨rfl, r, fc1, hp, hd1, rfl⟩
  · have T : (¬ (inr p0 0 (nI nw - 1) ∧ inr p2 0 2)) := by
      rcases t with ⟨e, c⟩ | ⟨e, a, a2, c⟩
      · exact c
      · exact absurd e (by decide)
    have F0 := T
    rcases hB with m1 | m2 | m3
    · obtain ⟨c, -, hm⟩ := m1
      exact mT.err hS hR hd 1 (by decide) hm
    · obtain ⟨a, a2, c, -, hm⟩ := m2
      have g : inr p0 0 (nI nw - 1) ∧ inr p2 0 2 := ⟨a, a2⟩
      exact absurd g F0
    · obtain ⟨wv, kv2, hw2, hk2, d0, d1, d2, hb, hm⟩ := m3
      have g : inr p0 0 (nI nw - 1) ∧ inr p2 0 2 := ⟨by rw [d0]; exact inr_wI hw2 (by omega), d2⟩
      exact absurd g F0
  · have T : (inr p0 0 (nI nw - 1) ∧ inr p2 0 2) ∧ (¬ (inr p1 0 30)) := by
      rcases t with ⟨e, c⟩ | ⟨e, a, a2, c⟩
      · exact absurd e (by decide)
      · exact ⟨⟨a, a2⟩, c⟩
    obtain ⟨F0, F1⟩ := T
    rcases hB with m1 | m2 | m3
    · obtain ⟨c, -, hm⟩ := m1
      have g : ¬ (inr p0 0 (nI nw - 1) ∧ inr p2 0 2) := c
      exact absurd F0 g
    · obtain ⟨a, a2, c, -, hm⟩ := m2
      exact mT.err hS hR hd 2 (by decide) hm
    · obtain ⟨wv, kv2, hw2, hk2, d0, d1, d2, hb, hm⟩ := m3
      have g : inr p1 0 30 := by rw [d1]; exact inr_nI (n := 30) hk2 (by decide)
      exact absurd g F1
  · obtain ⟨w, kv, rv, hw, hk, hr3, e0, e1, e2, hr, hR2⟩ := hp
    have F0 : inr p0 0 (nI nw - 1) ∧ inr p2 0 2 := ⟨by rw [e0]; exact inr_wI hw (by omega), by rw [e2]; exact inr_nI (n := 2) (by omega) (by decide)⟩
    have F1 : inr p1 0 30 := by rw [e1]; exact inr_nI (n := 30) hk (by decide)
    rcases hB with m1 | m2 | m3
    · obtain ⟨c, -, hm⟩ := m1
      have g : ¬ (inr p0 0 (nI nw - 1) ∧ inr p2 0 2) := c
      exact absurd F0 g
    · obtain ⟨a, a2, c, -, hm⟩ := m2
      have g : ¬ (inr p1 0 30) := c
      exact absurd F1 g
    · obtain ⟨wv, kv2, hw2, hk2, d0, d1, d2, hb, hm⟩ := m3
      obtain rfl : w = wv := nI_inj2 (e0.symm.trans d0) (by omega) (by omega)
      obtain rfl : kv = kv2 := nI_inj2 (e1.symm.trans d1) (by omega) (by omega)
      exact mT.ok (sim_setRank hS hw hk hr3 e2) hR2 rfl hm (by rw [up2_n (by decide), up2_s, va_up_s]) (hr.trans (((hS.2.2.1 w hw).2.2.2.2.2.2.1.1 kv (by omega)).trans hb.symm)) hd1
set_option maxHeartbeats 4000000 in
theorem mt_setRates (hS : Sim μ κ nw no nt wk) (hR : Rc y nw no nt wk κ α f) (hd : fw_dis f (oC y o gl)) {p0 p1 p2 p3 : Int32} (hA : (fun k f1 => (k = 1 ∧ (fun E => (E = nIOB ∧ ¬ inr p0 0 2) ∨ (E = nIAE ∧ inr p0 0 2 ∧ ¬ (inr p1 0 30 ∧ inr p2 0 10000 ∧ inr p3 0 10000))) nIOB ∧ f1 = fw_or f (oC y o gl)) ∨ (k = 2 ∧ (fun E => (E = nIOB ∧ ¬ inr p0 0 2) ∨ (E = nIAE ∧ inr p0 0 2 ∧ ¬ (inr p1 0 30 ∧ inr p2 0 10000 ∧ inr p3 0 10000))) nIAE ∧ f1 = fw_or f (oC y o gl)) ∨ (k = 0 ∧ ∃ r fc1, (fun r f1 => ∃ rv kv, rv < 3 ∧ kv ≤ 30 ∧ p0 = nI rv ∧ p1 = nI kv ∧ inr p2 0 10000 ∧ inr p3 0 10000 ∧ r = κ 2 (2 * rv) kv ∧ Rc y nw no nt wk (tellK (tellK κ 2 3 (2 * rv) kv p2) 2 3 (2 * rv + 1) kv p3) α f1) r fc1 ∧ fw_dis fc1 (oC y o (oU gl r)) ∧ f1 = fw_or fc1 (oC y o (oU gl r)))) k f1) (hB : (fun r f1 => (¬ inr p0 0 2 ∧ r = 0 ∧ Rm y (up2 μ 0 0 1) β f1) ∨ (inr p0 0 2 ∧ ¬ (inr p1 0 30 ∧ inr p2 0 10000 ∧ inr p3 0 10000) ∧ r = 0 ∧ Rm y (up2 μ 0 0 2) β f1) ∨ (∃ rv kv, rv ≤ 2 ∧ kv ≤ 30 ∧ p0 = nI rv ∧ p1 = nI kv ∧ inr p2 0 10000 ∧ inr p3 0 10000 ∧ r = μ 5 (tld (μ 5) (31 * rv + kv)) ∧ Rm y (up2 (up2 (up2 μ 0 0 0) 5 (31 * rv + kv) p2) 6 (31 * rv + kv) p3) β f1)) b f2) : mT y o (α 0 0 0) β k b f1 f2 := by
  have h0 := hS.err 0
  obtain ⟨hn8, hn20, hn40, hn31, -⟩ := id hS.2.1
  rcases hA with ⟨rfl, t, rfl⟩ | ⟨rfl, t, rfl⟩ | ⟨rfl, r, fc1, hp, hd1, rfl⟩
  · have T : (¬ (inr p0 0 2)) := by
      rcases t with ⟨e, c⟩ | ⟨e, a1, c⟩
      · exact c
      · exact absurd e (by decide)
    have F0 := T
    rcases hB with m1 | m2 | m3
    · obtain ⟨c, -, hm⟩ := m1
      exact mT.err hS hR hd 1 (by decide) hm
    · obtain ⟨a1, c, -, hm⟩ := m2
      have g : inr p0 0 2 := a1
      exact absurd g F0
    · obtain ⟨wv, kv2, hw2, hk2, d0, d1, d2, d3, hb, hm⟩ := m3
      have g : inr p0 0 2 := by rw [d0]; exact inr_nI (n := 2) hw2 (by decide)
      exact absurd g F0
  · have T : (inr p0 0 2) ∧ (¬ (inr p1 0 30 ∧ inr p2 0 10000 ∧ inr p3 0 10000)) := by
      rcases t with ⟨e, c⟩ | ⟨e, a1, c⟩
      · exact absurd e (by decide)
      · exact ⟨a1, c⟩
    obtain ⟨F0, F1⟩ := T
    rcases hB with m1 | m2 | m3
    · obtain ⟨c, -, hm⟩ := m1
      have g : ¬ (inr p0 0 2) := c
      exact absurd F0 g
    · obtain ⟨a1, c, -, hm⟩ := m2
      exact mT.err hS hR hd 2 (by decide) hm
    · obtain ⟨wv, kv2, hw2, hk2, d0, d1, d2, d3, hb, hm⟩ := m3
      have g : inr p1 0 30 ∧ inr p2 0 10000 ∧ inr p3 0 10000 := ⟨by rw [d1]; exact inr_nI (n := 30) hk2 (by decide), d2, d3⟩
      exact absurd g F1
  · obtain ⟨w, kv, hw, hk, e0, e1, h2, h3, hr, hR2⟩ := hp
    have F0 : inr p0 0 2 := by rw [e0]; exact inr_nI (n := 2) (by omega) (by decide)
    have F1 : inr p1 0 30 ∧ inr p2 0 10000 ∧ inr p3 0 10000 := ⟨by rw [e1]; exact inr_nI (n := 30) hk (by decide), h2, h3⟩
    rcases hB with m1 | m2 | m3
    · obtain ⟨c, -, hm⟩ := m1
      have g : ¬ (inr p0 0 2) := c
      exact absurd F0 g
    · obtain ⟨a1, c, -, hm⟩ := m2
      have g : ¬ (inr p1 0 30 ∧ inr p2 0 10000 ∧ inr p3 0 10000) := c
      exact absurd F1 g
    · obtain ⟨wv, kv2, hw2, hk2, d0, d1, d2, d3, hb, hm⟩ := m3
      obtain rfl : w = wv := nI_inj2 (e0.symm.trans d0) (by omega) (by omega)
      obtain rfl : kv = kv2 := nI_inj2 (e1.symm.trans d1) (by omega) (by omega)
      exact mT.ok (sim_setRates hS hw hk h2 h3) hR2 rfl hm (by rw [up2_n (by decide), up2_n (by decide), up2_s, va_up_s]) (hr.trans (((hS.2.2.2.2.1.1 w hw).1.1 kv (by omega)).trans hb.symm)) hd1
set_option maxHeartbeats 4000000 in
theorem mt_come (hS : Sim μ κ nw no nt wk) (hR : Rc y nw no nt wk κ α f) (hd : fw_dis f (oC y o gl)) {p0 p1 p2 p3 p4 : Int32} (hA : (fun k f1 => (k = 1 ∧ (fun E => (E = nIOB ∧ ¬ inr p0 0 (nI nw - 1)) ∨ (E = nIAE ∧ inr p0 0 (nI nw - 1) ∧ ¬ (inr p1 0 19 ∧ inr p2 0 30 ∧ inr p3 0 100 ∧ inr p4 0 100))) nIOB ∧ f1 = fw_or f (oC y o gl)) ∨ (k = 2 ∧ (fun E => (E = nIOB ∧ ¬ inr p0 0 (nI nw - 1)) ∨ (E = nIAE ∧ inr p0 0 (nI nw - 1) ∧ ¬ (inr p1 0 19 ∧ inr p2 0 30 ∧ inr p3 0 100 ∧ inr p4 0 100))) nIAE ∧ f1 = fw_or f (oC y o gl)) ∨ (k = 0 ∧ ∃ r fc1, (fun r f1 => ∃ w s kv, w < nw ∧ s ≤ 19 ∧ kv ≤ 30 ∧ p0 = nI w ∧ p1 = nI s ∧ p2 = nI kv ∧ inr p3 0 100 ∧ inr p4 0 100 ∧ ((¬ κ 7 w s = -1 ∧ r = κ 4 w 1 ∧ f1 = f) ∨ (κ 7 w s = -1 ∧ ∃ cn α2, cn ≤ 20 ∧ κ 4 w 1 = nI cn ∧ r = (nI (cnR (va_up (κ 7 w) s (nI kv)) (20 - cn) cn)) ∧ α2 0 0 0 = α 0 0 0 ∧ Rc y nw no nt wk (shK κ w s kv p3 p4 (nI (cnR (va_up (κ 7 w) s (nI kv)) (20 - cn) cn))) α2 f1))) r fc1 ∧ fw_dis fc1 (oC y o (oU gl r)) ∧ f1 = fw_or fc1 (oC y o (oU gl r)))) k f1) (hB : (fun r f1 => (¬ inr p0 0 (nI nw - 1) ∧ r = 0 ∧ Rm y (up2 μ 0 0 1) β f1) ∨ (inr p0 0 (nI nw - 1) ∧ ¬ (inr p1 0 19 ∧ inr p2 0 30 ∧ inr p3 0 100 ∧ inr p4 0 100) ∧ r = 0 ∧ Rm y (up2 μ 0 0 2) β f1) ∨ (∃ wv sv, wv < nw ∧ sv ≤ 19 ∧ p0 = nI wv ∧ p1 = nI sv ∧ inr p2 0 30 ∧ inr p3 0 100 ∧ inr p4 0 100 ∧ ((μ 7 (20 * wv + sv) = -1 ∧ r = nI (cnM (up2 (up2 (up2 (up2 μ 0 0 0) 7 (20 * wv + sv) p2) 8 (20 * wv + sv) p3) 9 (20 * wv + sv) p4) wv) ∧ Rm y (up2 (up2 (up2 (up2 μ 0 0 0) 7 (20 * wv + sv) p2) 8 (20 * wv + sv) p3) 9 (20 * wv + sv) p4) β f1) ∨ (¬ μ 7 (20 * wv + sv) = -1 ∧ r = nI (cnM (up2 μ 0 0 0) wv) ∧ Rm y (up2 μ 0 0 0) β f1)))) b f2) : mT y o (α 0 0 0) β k b f1 f2 := by
  have h0 := hS.err 0
  obtain ⟨hn8, hn20, hn40, hn31, -⟩ := id hS.2.1
  rcases hA with ⟨rfl, t, rfl⟩ | ⟨rfl, t, rfl⟩ | ⟨rfl, r, fc1, hp, hd1, rfl⟩
  · have T : (¬ (inr p0 0 (nI nw - 1))) := by
      rcases t with ⟨e, c⟩ | ⟨e, a1, c⟩
      · exact c
      · exact absurd e (by decide)
    have F0 := T
    rcases hB with m1 | m2 | m3
    · obtain ⟨c, -, hm⟩ := m1
      exact mT.err hS hR hd 1 (by decide) hm
    · obtain ⟨a1, c, -, hm⟩ := m2
      have g : inr p0 0 (nI nw - 1) := a1
      exact absurd g F0
    · obtain ⟨wv, sv, hw2, hs2, d0, d1, d2, d3, d4, mcase⟩ := m3
      have g : inr p0 0 (nI nw - 1) := by rw [d0]; exact inr_wI hw2 (by omega)
      exact absurd g F0
  · have T : (inr p0 0 (nI nw - 1)) ∧ (¬ (inr p1 0 19 ∧ inr p2 0 30 ∧ inr p3 0 100 ∧ inr p4 0 100)) := by
      rcases t with ⟨e, c⟩ | ⟨e, a1, c⟩
      · exact absurd e (by decide)
      · exact ⟨a1, c⟩
    obtain ⟨F0, F1⟩ := T
    rcases hB with m1 | m2 | m3
    · obtain ⟨c, -, hm⟩ := m1
      have g : ¬ (inr p0 0 (nI nw - 1)) := c
      exact absurd F0 g
    · obtain ⟨a1, c, -, hm⟩ := m2
      exact mT.err hS hR hd 2 (by decide) hm
    · obtain ⟨wv, sv, hw2, hs2, d0, d1, d2, d3, d4, mcase⟩ := m3
      have g : inr p1 0 19 ∧ inr p2 0 30 ∧ inr p3 0 100 ∧ inr p4 0 100 := ⟨by rw [d1]; exact inr_nI (n := 19) hs2 (by decide), d2, d3, d4⟩
      exact absurd g F1
  · obtain ⟨w, s, kv, hw, hs, hk, e0, e1, e2, h3, h4, hcase⟩ := hp
    have F0 : inr p0 0 (nI nw - 1) := by rw [e0]; exact inr_wI hw (by omega)
    have F1 : inr p1 0 19 ∧ inr p2 0 30 ∧ inr p3 0 100 ∧ inr p4 0 100 := ⟨by rw [e1]; exact inr_nI (n := 19) hs (by decide), by rw [e2]; exact inr_nI (n := 30) hk (by decide), h3, h4⟩
    rcases hB with m1 | m2 | m3
    · obtain ⟨c, -, hm⟩ := m1
      have g : ¬ (inr p0 0 (nI nw - 1)) := c
      exact absurd F0 g
    · obtain ⟨a1, c, -, hm⟩ := m2
      have g : ¬ (inr p1 0 19 ∧ inr p2 0 30 ∧ inr p3 0 100 ∧ inr p4 0 100) := c
      exact absurd F1 g
    · obtain ⟨wv, sv, hw2, hs2, d0, d1, d2, d3, d4, mcase⟩ := m3
      obtain rfl : w = wv := nI_inj2 (e0.symm.trans d0) (by omega) (by omega)
      obtain rfl : s = sv := nI_inj2 (e1.symm.trans d1) (by omega) (by omega)
      have h7 := ((hS.2.2.1 w hw).2.2.2.2.2.2.2.1 s (by omega)).1
      rcases hcase with ⟨n7, hr, rfl⟩ | ⟨y7, cn, α2, hc, hcn, hr, hα, hR2⟩
      · rcases mcase with ⟨m7, hb, hm⟩ | ⟨m7, hb, hm⟩
        · exact absurd (h7.trans m7) n7
        · exact mT.ok h0 hR rfl hm (by rw [up2_s, va_up_s]) (hr.trans ((h0.2.2.1 w hw).2.1.trans hb.symm)) hd1
      · rcases mcase with ⟨m7, hb, hm⟩ | ⟨m7, hb, hm⟩
        · obtain ⟨q1, q2⟩ := sim_come hS hw hs hk e2 h3 h4 y7 hc hcn
          exact mT.ok q2 hR2 hα hm (by rw [up2_n (by decide), up2_n (by decide), up2_n (by decide), up2_s, va_up_s]) (hr.trans (q1.symm.trans hb.symm)) hd1
        · exact absurd (h7.symm.trans y7) m7
set_option maxHeartbeats 4000000 in
theorem mt_correct (hS : Sim μ κ nw no nt wk) (hR : Rc y nw no nt wk κ α f) (hd : fw_dis f (oC y o gl)) {p0 p1 p2 p3 : Int32} (hA : (fun k f1 => (k = 1 ∧ (fun E => (E = nIOB ∧ ¬ (∃ wv sv, wv < nw ∧ sv ≤ 19 ∧ p0 = nI wv ∧ p1 = nI sv ∧ ¬ κ 7 wv sv = -1)) ∨ (E = nIAE ∧ (∃ wv sv, wv < nw ∧ sv ≤ 19 ∧ p0 = nI wv ∧ p1 = nI sv ∧ ¬ κ 7 wv sv = -1) ∧ ¬ (inr p2 0 100 ∧ inr p3 0 100))) nIOB ∧ f1 = fw_or f (oC y o gl)) ∨ (k = 2 ∧ (fun E => (E = nIOB ∧ ¬ (∃ wv sv, wv < nw ∧ sv ≤ 19 ∧ p0 = nI wv ∧ p1 = nI sv ∧ ¬ κ 7 wv sv = -1)) ∨ (E = nIAE ∧ (∃ wv sv, wv < nw ∧ sv ≤ 19 ∧ p0 = nI wv ∧ p1 = nI sv ∧ ¬ κ 7 wv sv = -1) ∧ ¬ (inr p2 0 100 ∧ inr p3 0 100))) nIAE ∧ f1 = fw_or f (oC y o gl)) ∨ (k = 0 ∧ ∃ r fc1, (fun r f1 => ∃ w s, w < nw ∧ s ≤ 19 ∧ p0 = nI w ∧ p1 = nI s ∧ ¬ κ 7 w s = -1 ∧ inr p2 0 100 ∧ inr p3 0 100 ∧ r = κ 8 w s + κ 9 w s ∧ Rc y nw no nt wk (upF (upF κ 8 w (va_up (κ 8 w) s p2)) 9 w (va_up (upF κ 8 w (va_up (κ 8 w) s p2) 9 w) s p3)) α f1) r fc1 ∧ fw_dis fc1 (oC y o (oU gl r)) ∧ f1 = fw_or fc1 (oC y o (oU gl r)))) k f1) (hB : (fun r f1 => (¬ (∃ wv sv, wv < nw ∧ sv ≤ 19 ∧ p0 = nI wv ∧ p1 = nI sv ∧ ¬ μ 7 (20 * wv + sv) = -1) ∧ r = 0 ∧ Rm y (up2 μ 0 0 1) β f1) ∨ ((∃ wv sv, wv < nw ∧ sv ≤ 19 ∧ p0 = nI wv ∧ p1 = nI sv ∧ ¬ μ 7 (20 * wv + sv) = -1) ∧ ¬ (inr p2 0 100 ∧ inr p3 0 100) ∧ r = 0 ∧ Rm y (up2 μ 0 0 2) β f1) ∨ (∃ wv sv, wv < nw ∧ sv ≤ 19 ∧ p0 = nI wv ∧ p1 = nI sv ∧ ¬ μ 7 (20 * wv + sv) = -1 ∧ inr p2 0 100 ∧ inr p3 0 100 ∧ r = μ 8 (20 * wv + sv) + μ 9 (20 * wv + sv) ∧ Rm y (up2 (up2 (up2 μ 0 0 0) 8 (20 * wv + sv) p2) 9 (20 * wv + sv) p3) β f1)) b f2) : mT y o (α 0 0 0) β k b f1 f2 := by
  have h0 := hS.err 0
  obtain ⟨hn8, hn20, hn40, hn31, -⟩ := id hS.2.1
  have hkm : ∀ w s, w < nw → s ≤ 19 → κ 7 w s = μ 7 (20 * w + s) := fun w s hw hs => ((hS.2.2.1 w hw).2.2.2.2.2.2.2.1 s (by omega)).1
  rcases hA with ⟨rfl, t, rfl⟩ | ⟨rfl, t, rfl⟩ | ⟨rfl, r, fc1, hp, hd1, rfl⟩
  · have T : (¬ (∃ wv sv, wv < nw ∧ sv ≤ 19 ∧ p0 = nI wv ∧ p1 = nI sv ∧ ¬ κ 7 wv sv = -1)) := by
      rcases t with ⟨e, c⟩ | ⟨e, a1, c⟩
      · exact c
      · exact absurd e (by decide)
    have F0 := T
    rcases hB with m1 | m2 | m3
    · obtain ⟨c, -, hm⟩ := m1
      exact mT.err hS hR hd 1 (by decide) hm
    · obtain ⟨⟨w3, s3, g0, g1, g2, g3, g4⟩, c, -, hm⟩ := m2
      have g : ∃ wv sv, wv < nw ∧ sv ≤ 19 ∧ p0 = nI wv ∧ p1 = nI sv ∧ ¬ κ 7 wv sv = -1 := ⟨w3, s3, g0, g1, g2, g3, by rw [hkm w3 s3 g0 g1]; exact g4⟩
      exact absurd g F0
    · obtain ⟨wv, sv, hw2, hs2, d0, d1, m7, d2, d3, hb, hm⟩ := m3
      have g : ∃ wv sv, wv < nw ∧ sv ≤ 19 ∧ p0 = nI wv ∧ p1 = nI sv ∧ ¬ κ 7 wv sv = -1 := ⟨wv, sv, hw2, hs2, d0, d1, by rw [hkm wv sv hw2 hs2]; exact m7⟩
      exact absurd g F0
  · have T : (∃ wv sv, wv < nw ∧ sv ≤ 19 ∧ p0 = nI wv ∧ p1 = nI sv ∧ ¬ κ 7 wv sv = -1) ∧ (¬ (inr p2 0 100 ∧ inr p3 0 100)) := by
      rcases t with ⟨e, c⟩ | ⟨e, a1, c⟩
      · exact absurd e (by decide)
      · exact ⟨a1, c⟩
    obtain ⟨F0, F1⟩ := T
    rcases hB with m1 | m2 | m3
    · obtain ⟨c, -, hm⟩ := m1
      have g : ¬ (∃ wv sv, wv < nw ∧ sv ≤ 19 ∧ p0 = nI wv ∧ p1 = nI sv ∧ ¬ κ 7 wv sv = -1) := fun ⟨w, s, hw, hs, e0, e1, n7⟩ => c ⟨w, s, hw, hs, e0, e1, by rw [← hkm w s hw hs]; exact n7⟩
      exact absurd F0 g
    · obtain ⟨⟨w3, s3, g0, g1, g2, g3, g4⟩, c, -, hm⟩ := m2
      exact mT.err hS hR hd 2 (by decide) hm
    · obtain ⟨wv, sv, hw2, hs2, d0, d1, m7, d2, d3, hb, hm⟩ := m3
      have g : inr p2 0 100 ∧ inr p3 0 100 := ⟨d2, d3⟩
      exact absurd g F1
  · obtain ⟨w, s, hw, hs, e0, e1, n7, h2, h3, hr, hR2⟩ := hp
    have F0 : ∃ wv sv, wv < nw ∧ sv ≤ 19 ∧ p0 = nI wv ∧ p1 = nI sv ∧ ¬ κ 7 wv sv = -1 := ⟨w, s, hw, hs, e0, e1, n7⟩
    have F1 : inr p2 0 100 ∧ inr p3 0 100 := ⟨h2, h3⟩
    rcases hB with m1 | m2 | m3
    · obtain ⟨c, -, hm⟩ := m1
      have g : ¬ (∃ wv sv, wv < nw ∧ sv ≤ 19 ∧ p0 = nI wv ∧ p1 = nI sv ∧ ¬ κ 7 wv sv = -1) := fun ⟨w, s, hw, hs, e0, e1, n7⟩ => c ⟨w, s, hw, hs, e0, e1, by rw [← hkm w s hw hs]; exact n7⟩
      exact absurd F0 g
    · obtain ⟨⟨w3, s3, g0, g1, g2, g3, g4⟩, c, -, hm⟩ := m2
      have g : ¬ (inr p2 0 100 ∧ inr p3 0 100) := c
      exact absurd F1 g
    · obtain ⟨wv, sv, hw2, hs2, d0, d1, m7, d2, d3, hb, hm⟩ := m3
      obtain rfl : w = wv := nI_inj2 (e0.symm.trans d0) (by omega) (by omega)
      obtain rfl : s = sv := nI_inj2 (e1.symm.trans d1) (by omega) (by omega)
      obtain ⟨u1, u2⟩ := ((hS.2.2.1 w hw).2.2.2.2.2.2.2.1 s (by omega)).2 n7
      exact mT.ok (sim_correct hS hw hs h2 h3) hR2 rfl hm (by rw [up2_n (by decide), up2_n (by decide), up2_s, va_up_s]) (hr.trans (by rw [u1, u2, hb])) hd1
set_option maxHeartbeats 4000000 in
theorem mt_acknowledged (hS : Sim μ κ nw no nt wk) (hR : Rc y nw no nt wk κ α f) (hd : fw_dis f (oC y o gl)) {p0 : Int32} (hA : (fun k f1 => (k = 1 ∧ (fun E => E = nIOB ∧ ¬ inr p0 0 (nI nw - 1)) nIOB ∧ f1 = fw_or f (oC y o gl)) ∨ (k = 0 ∧ ∃ r fc1, (fun r f1 => ∃ w, w < nw ∧ p0 = nI w ∧ r = κ 4 w 1 ∧ f1 = f) r fc1 ∧ fw_dis fc1 (oC y o (oU gl r)) ∧ f1 = fw_or fc1 (oC y o (oU gl r)))) k f1) (hB : (fun r f1 => (¬ inr p0 0 (nI nw - 1) ∧ r = 0 ∧ Rm y (up2 μ 0 0 1) β f1) ∨ (∃ wv, wv < nw ∧ p0 = nI wv ∧ r = nI (cnM (up2 μ 0 0 0) wv) ∧ Rm y (up2 μ 0 0 0) β f1)) b f2) : mT y o (α 0 0 0) β k b f1 f2 := by
  have h0 := hS.err 0
  obtain ⟨hn8, hn20, hn40, hn31, -⟩ := id hS.2.1
  rcases hA with ⟨rfl, t, rfl⟩ | ⟨rfl, r, fc1, hp, hd1, rfl⟩
  · have T : (¬ (inr p0 0 (nI nw - 1))) := by
      obtain ⟨e, c⟩ := t
      exact c
    have F0 := T
    rcases hB with m1 | m2
    · obtain ⟨c, -, hm⟩ := m1
      exact mT.err hS hR hd 1 (by decide) hm
    · obtain ⟨wv, hw2, d0, hb, hm⟩ := m2
      have g : inr p0 0 (nI nw - 1) := by rw [d0]; exact inr_wI hw2 (by omega)
      exact absurd g F0
  · obtain ⟨w, hw, e0, hr, rfl⟩ := hp
    have F0 : inr p0 0 (nI nw - 1) := by rw [e0]; exact inr_wI hw (by omega)
    rcases hB with m1 | m2
    · obtain ⟨c, -, hm⟩ := m1
      have g : ¬ (inr p0 0 (nI nw - 1)) := c
      exact absurd F0 g
    · obtain ⟨wv, hw2, d0, hb, hm⟩ := m2
      obtain rfl : w = wv := nI_inj2 (e0.symm.trans d0) (by omega) (by omega)
      exact mT.ok h0 hR rfl hm (by rw [up2_s, va_up_s]) (hr.trans (((h0.2.2.1 w hw).2.1).trans hb.symm)) hd1
set_option maxHeartbeats 4000000 in
theorem mt_due (hS : Sim μ κ nw no nt wk) (hR : Rc y nw no nt wk κ α f) (hd : fw_dis f (oC y o gl)) {p0 p1 : Int32} (hA : (fun k f1 => (k = 1 ∧ (fun E => (E = nIOB ∧ ¬ inr p0 0 (nI nw - 1)) ∨ (E = nIAE ∧ inr p0 0 (nI nw - 1) ∧ ¬ inr p1 0 30)) nIOB ∧ f1 = fw_or f (oC y o gl)) ∨ (k = 2 ∧ (fun E => (E = nIOB ∧ ¬ inr p0 0 (nI nw - 1)) ∨ (E = nIAE ∧ inr p0 0 (nI nw - 1) ∧ ¬ inr p1 0 30)) nIAE ∧ f1 = fw_or f (oC y o gl)) ∨ (k = 0 ∧ ∃ r fc1, (fun r f1 => ∃ w, w < nw ∧ p0 = nI w ∧ inr p1 0 30 ∧ r = duC κ w p1 p1 ∧ f1 = f) r fc1 ∧ fw_dis fc1 (oC y o (oU gl r)) ∧ f1 = fw_or fc1 (oC y o (oU gl r)))) k f1) (hB : (fun r f1 => (¬ inr p0 0 (nI nw - 1) ∧ r = 0 ∧ Rm y (up2 μ 0 0 1) β f1) ∨ (inr p0 0 (nI nw - 1) ∧ ¬ inr p1 0 30 ∧ r = 0 ∧ Rm y (up2 μ 0 0 2) β f1) ∨ (∃ wv kv, wv < nw ∧ kv ≤ 30 ∧ p0 = nI wv ∧ p1 = nI kv ∧ r = duM (up2 μ 0 0 0) wv kv ∧ Rm y (up2 μ 0 0 0) β f1)) b f2) : mT y o (α 0 0 0) β k b f1 f2 := by
  have h0 := hS.err 0
  obtain ⟨hn8, hn20, hn40, hn31, -⟩ := id hS.2.1
  rcases hA with ⟨rfl, t, rfl⟩ | ⟨rfl, t, rfl⟩ | ⟨rfl, r, fc1, hp, hd1, rfl⟩
  · have T : (¬ (inr p0 0 (nI nw - 1))) := by
      rcases t with ⟨e, c⟩ | ⟨e, a1, c⟩
      · exact c
      · exact absurd e (by decide)
    have F0 := T
    rcases hB with m1 | m2 | m3
    · obtain ⟨c, -, hm⟩ := m1
      exact mT.err hS hR hd 1 (by decide) hm
    · obtain ⟨a1, c, -, hm⟩ := m2
      have g : inr p0 0 (nI nw - 1) := a1
      exact absurd g F0
    · obtain ⟨wv, kv, hw2, hk2, d0, d1, hb, hm⟩ := m3
      have g : inr p0 0 (nI nw - 1) := by rw [d0]; exact inr_wI hw2 (by omega)
      exact absurd g F0
  · have T : (inr p0 0 (nI nw - 1)) ∧ (¬ (inr p1 0 30)) := by
      rcases t with ⟨e, c⟩ | ⟨e, a1, c⟩
      · exact absurd e (by decide)
      · exact ⟨a1, c⟩
    obtain ⟨F0, F1⟩ := T
    rcases hB with m1 | m2 | m3
    · obtain ⟨c, -, hm⟩ := m1
      have g : ¬ (inr p0 0 (nI nw - 1)) := c
      exact absurd F0 g
    · obtain ⟨a1, c, -, hm⟩ := m2
      exact mT.err hS hR hd 2 (by decide) hm
    · obtain ⟨wv, kv, hw2, hk2, d0, d1, hb, hm⟩ := m3
      have g : inr p1 0 30 := by rw [d1]; exact inr_nI (n := 30) hk2 (by decide)
      exact absurd g F1
  · obtain ⟨w, hw, e0, h1, hr, rfl⟩ := hp
    have F0 : inr p0 0 (nI nw - 1) := by rw [e0]; exact inr_wI hw (by omega)
    have F1 : inr p1 0 30 := h1
    rcases hB with m1 | m2 | m3
    · obtain ⟨c, -, hm⟩ := m1
      have g : ¬ (inr p0 0 (nI nw - 1)) := c
      exact absurd F0 g
    · obtain ⟨a1, c, -, hm⟩ := m2
      have g : ¬ (inr p1 0 30) := c
      exact absurd F1 g
    · obtain ⟨wv, kv, hw2, hk2, d0, d1, hb, hm⟩ := m3
      obtain rfl : w = wv := nI_inj2 (e0.symm.trans d0) (by omega) (by omega)
      have g := h0.2.2.1 w hw
      rw [d1] at hr
      exact mT.ok h0 hR rfl hm (by rw [up2_s, va_up_s]) (hr.trans ((du_one h0.2.1 hw g.2.2.2.2.2.2.1.1 h0.2.2.2.2.1.rt g.2.2.2.2.2.2.2.1 g.2.1 (by omega)).trans hb.symm)) hd1
set_option maxHeartbeats 4000000 in
theorem mt_order (hS : Sim μ κ nw no nt wk) (hR : Rc y nw no nt wk κ α f) (hd : fw_dis f (oC y o gl)) {p0 p1 p2 p3 : Int32} (hA : (fun k f1 => (k = 1 ∧ (fun E => (E = nIOB ∧ ¬ inr p0 0 (nI nw - 1)) ∨ (E = nIAE ∧ inr p0 0 (nI nw - 1) ∧ ¬ (inr p1 0 2 ∧ inr p2 1 10000000 ∧ inr p3 1 1000000)) ∨ (E = nISE ∧ inr p0 0 (nI nw - 1) ∧ (inr p1 0 2 ∧ inr p2 1 10000000 ∧ inr p3 1 1000000) ∧ no = 20)) nIOB ∧ f1 = fw_or f (oC y o gl)) ∨ (k = 2 ∧ (fun E => (E = nIOB ∧ ¬ inr p0 0 (nI nw - 1)) ∨ (E = nIAE ∧ inr p0 0 (nI nw - 1) ∧ ¬ (inr p1 0 2 ∧ inr p2 1 10000000 ∧ inr p3 1 1000000)) ∨ (E = nISE ∧ inr p0 0 (nI nw - 1) ∧ (inr p1 0 2 ∧ inr p2 1 10000000 ∧ inr p3 1 1000000) ∧ no = 20)) nIAE ∧ f1 = fw_or f (oC y o gl)) ∨ (k = 3 ∧ (fun E => (E = nIOB ∧ ¬ inr p0 0 (nI nw - 1)) ∨ (E = nIAE ∧ inr p0 0 (nI nw - 1) ∧ ¬ (inr p1 0 2 ∧ inr p2 1 10000000 ∧ inr p3 1 1000000)) ∨ (E = nISE ∧ inr p0 0 (nI nw - 1) ∧ (inr p1 0 2 ∧ inr p2 1 10000000 ∧ inr p3 1 1000000) ∧ no = 20)) nISE ∧ f1 = fw_or f (oC y o gl)) ∨ (k = 0 ∧ ∃ r fc1, (fun r f1 => ∃ w α2, w < nw ∧ p0 = nI w ∧ inr p1 0 2 ∧ inr p2 1 10000000 ∧ inr p3 1 1000000 ∧ no < 20 ∧ r = nI no ∧ α2 0 0 0 = α 0 0 0 ∧ Rc y nw (no + 1) nt wk (upF κ 15 no (orow w p1 p2 p3)) α2 f1) r fc1 ∧ fw_dis fc1 (oC y o (oU gl r)) ∧ f1 = fw_or fc1 (oC y o (oU gl r)))) k f1) (hB : (fun r f1 => (¬ inr p0 0 (nI nw - 1) ∧ r = 0 ∧ Rm y (up2 μ 0 0 1) β f1) ∨ (inr p0 0 (nI nw - 1) ∧ ¬ (inr p1 0 2 ∧ inr p2 1 10000000 ∧ inr p3 1 1000000) ∧ r = 0 ∧ Rm y (up2 μ 0 0 2) β f1) ∨ (inr p0 0 (nI nw - 1) ∧ inr p1 0 2 ∧ inr p2 1 10000000 ∧ inr p3 1 1000000 ∧ nI no = 20 ∧ r = 0 ∧ Rm y (up2 μ 0 0 3) β f1) ∨ (∃ wv, wv < nw ∧ p0 = nI wv ∧ inr p1 0 2 ∧ inr p2 1 10000000 ∧ inr p3 1 1000000 ∧ ¬ nI no = 20 ∧ r = nI no ∧ Rm y (up2 (up2 (up2 (up2 (up2 (up2 μ 0 0 0) 14 no p0) 15 no p1) 16 no p2) 17 no p3) 13 0 (nI (no + 1))) β f1)) b f2) : mT y o (α 0 0 0) β k b f1 f2 := by
  have h0 := hS.err 0
  obtain ⟨hn8, hn20, hn40, hn31, -⟩ := id hS.2.1
  rcases hA with ⟨rfl, t, rfl⟩ | ⟨rfl, t, rfl⟩ | ⟨rfl, t, rfl⟩ | ⟨rfl, r, fc1, hp, hd1, rfl⟩
  · have T : (¬ (inr p0 0 (nI nw - 1))) := by
      rcases t with ⟨e, c⟩ | ⟨e, a1, c⟩ | ⟨e, a1, a2, c⟩
      · exact c
      · exact absurd e (by decide)
      · exact absurd e (by decide)
    have F0 := T
    rcases hB with m1 | m2 | m3 | m4
    · obtain ⟨c, -, hm⟩ := m1
      exact mT.err hS hR hd 1 (by decide) hm
    · obtain ⟨a1, c, -, hm⟩ := m2
      have g : inr p0 0 (nI nw - 1) := a1
      exact absurd g F0
    · obtain ⟨a1, b1, b2, b3, c, -, hm⟩ := m3
      have g : inr p0 0 (nI nw - 1) := a1
      exact absurd g F0
    · obtain ⟨wv, hw2, d0, d1, d2, d3, nn, hb, hm⟩ := m4
      have g : inr p0 0 (nI nw - 1) := by rw [d0]; exact inr_wI hw2 (by omega)
      exact absurd g F0
  · have T : (inr p0 0 (nI nw - 1)) ∧ (¬ (inr p1 0 2 ∧ inr p2 1 10000000 ∧ inr p3 1 1000000)) := by
      rcases t with ⟨e, c⟩ | ⟨e, a1, c⟩ | ⟨e, a1, a2, c⟩
      · exact absurd e (by decide)
      · exact ⟨a1, c⟩
      · exact absurd e (by decide)
    obtain ⟨F0, F1⟩ := T
    rcases hB with m1 | m2 | m3 | m4
    · obtain ⟨c, -, hm⟩ := m1
      have g : ¬ (inr p0 0 (nI nw - 1)) := c
      exact absurd F0 g
    · obtain ⟨a1, c, -, hm⟩ := m2
      exact mT.err hS hR hd 2 (by decide) hm
    · obtain ⟨a1, b1, b2, b3, c, -, hm⟩ := m3
      have g : inr p1 0 2 ∧ inr p2 1 10000000 ∧ inr p3 1 1000000 := ⟨b1, b2, b3⟩
      exact absurd g F1
    · obtain ⟨wv, hw2, d0, d1, d2, d3, nn, hb, hm⟩ := m4
      have g : inr p1 0 2 ∧ inr p2 1 10000000 ∧ inr p3 1 1000000 := ⟨d1, d2, d3⟩
      exact absurd g F1
  · have T : (inr p0 0 (nI nw - 1)) ∧ (inr p1 0 2 ∧ inr p2 1 10000000 ∧ inr p3 1 1000000) ∧ (no = 20) := by
      rcases t with ⟨e, c⟩ | ⟨e, a1, c⟩ | ⟨e, a1, a2, c⟩
      · exact absurd e (by decide)
      · exact absurd e (by decide)
      · exact ⟨a1, a2, c⟩
    obtain ⟨F0, F1, F2⟩ := T
    rcases hB with m1 | m2 | m3 | m4
    · obtain ⟨c, -, hm⟩ := m1
      have g : ¬ (inr p0 0 (nI nw - 1)) := c
      exact absurd F0 g
    · obtain ⟨a1, c, -, hm⟩ := m2
      have g : ¬ (inr p1 0 2 ∧ inr p2 1 10000000 ∧ inr p3 1 1000000) := c
      exact absurd F1 g
    · obtain ⟨a1, b1, b2, b3, c, -, hm⟩ := m3
      exact mT.err hS hR hd 3 (by decide) hm
    · obtain ⟨wv, hw2, d0, d1, d2, d3, nn, hb, hm⟩ := m4
      have g : ¬ (no = 20) := fun z => nn (by rw [z]; rfl)
      exact absurd F2 g
  · obtain ⟨w, α2, hw, e0, h1, h2, h3, hn, hr, hα, hR2⟩ := hp
    have F0 : inr p0 0 (nI nw - 1) := by rw [e0]; exact inr_wI hw (by omega)
    have F1 : inr p1 0 2 ∧ inr p2 1 10000000 ∧ inr p3 1 1000000 := ⟨h1, h2, h3⟩
    have F2 : ¬ (no = 20) := by omega
    rcases hB with m1 | m2 | m3 | m4
    · obtain ⟨c, -, hm⟩ := m1
      have g : ¬ (inr p0 0 (nI nw - 1)) := c
      exact absurd F0 g
    · obtain ⟨a1, c, -, hm⟩ := m2
      have g : ¬ (inr p1 0 2 ∧ inr p2 1 10000000 ∧ inr p3 1 1000000) := c
      exact absurd F1 g
    · obtain ⟨a1, b1, b2, b3, c, -, hm⟩ := m3
      have g : no = 20 := nI_inj2 (b := 20) c (by omega) (by decide)
      exact absurd g F2
    · obtain ⟨wv, hw2, d0, d1, d2, d3, nn, hb, hm⟩ := m4
      obtain rfl : w = wv := nI_inj2 (e0.symm.trans d0) (by omega) (by omega)
      exact mT.ok (sim_order hS hw e0 h2 h3 hn) hR2 hα hm (by rw [up2_n (by decide), up2_n (by decide), up2_n (by decide), up2_n (by decide), up2_n (by decide), up2_s, va_up_s]) (hr.trans hb.symm) hd1
set_option maxHeartbeats 4000000 in
theorem mt_left (hS : Sim μ κ nw no nt wk) (hR : Rc y nw no nt wk κ α f) (hd : fw_dis f (oC y o gl)) {p0 : Int32} (hA : (fun k f1 => (k = 1 ∧ (fun E => E = nIOB ∧ ¬ inr p0 0 (nI no - 1)) nIOB ∧ f1 = fw_or f (oC y o gl)) ∨ (k = 0 ∧ ∃ r fc1, (fun r f1 => ∃ o, o < no ∧ p0 = nI o ∧ r = κ 15 o 2 ∧ f1 = f) r fc1 ∧ fw_dis fc1 (oC y o (oU gl r)) ∧ f1 = fw_or fc1 (oC y o (oU gl r)))) k f1) (hB : (fun r f1 => (¬ inr p0 0 (nI no - 1) ∧ r = 0 ∧ Rm y (up2 μ 0 0 1) β f1) ∨ (∃ ov, ov < no ∧ p0 = nI ov ∧ r = μ 16 ov ∧ Rm y (up2 μ 0 0 0) β f1)) b f2) : mT y o (α 0 0 0) β k b f1 f2 := by
  have h0 := hS.err 0
  obtain ⟨hn8, hn20, hn40, hn31, -⟩ := id hS.2.1
  rcases hA with ⟨rfl, t, rfl⟩ | ⟨rfl, r, fc1, hp, hd1, rfl⟩
  · have T : (¬ (inr p0 0 (nI no - 1))) := by
      obtain ⟨e, c⟩ := t
      exact c
    have F0 := T
    rcases hB with m1 | m2
    · obtain ⟨c, -, hm⟩ := m1
      exact mT.err hS hR hd 1 (by decide) hm
    · obtain ⟨wv, hw2, d0, hb, hm⟩ := m2
      have g : inr p0 0 (nI no - 1) := by rw [d0]; exact inr_wI hw2 (by omega)
      exact absurd g F0
  · obtain ⟨w, hw, e0, hr, rfl⟩ := hp
    have F0 : inr p0 0 (nI no - 1) := by rw [e0]; exact inr_wI hw (by omega)
    rcases hB with m1 | m2
    · obtain ⟨c, -, hm⟩ := m1
      have g : ¬ (inr p0 0 (nI no - 1)) := c
      exact absurd F0 g
    · obtain ⟨wv, hw2, d0, hb, hm⟩ := m2
      obtain rfl : w = wv := nI_inj2 (e0.symm.trans d0) (by omega) (by omega)
      exact mT.ok h0 hR rfl hm (by rw [up2_s, va_up_s]) (hr.trans (((hS.2.2.2.2.2.1.1 w hw).2.2.1).trans hb.symm)) hd1
set_option maxHeartbeats 4000000 in
theorem mt_setFloor (hS : Sim μ κ nw no nt wk) (hR : Rc y nw no nt wk κ α f) (hd : fw_dis f (oC y o gl)) {p0 : Int32} (hA : (fun k f1 => (k = 1 ∧ (fun E => E = nIAE ∧ ¬ inr p0 0 10000000) nIAE ∧ f1 = fw_or f (oC y o gl)) ∨ (k = 0 ∧ ∃ r fc1, (fun r f1 => inr p0 0 10000000 ∧ r = κ 0 0 0 ∧ Rc y nw no nt wk (upF κ 0 0 (va_up (κ 0 0) 0 p0)) α f1) r fc1 ∧ fw_dis fc1 (oC y o (oU gl r)) ∧ f1 = fw_or fc1 (oC y o (oU gl r)))) k f1) (hB : (fun r f1 => (¬ inr p0 0 10000000 ∧ r = 0 ∧ Rm y (up2 μ 0 0 1) β f1) ∨ (inr p0 0 10000000 ∧ r = μ 18 0 ∧ Rm y (up2 (up2 μ 0 0 0) 18 0 p0) β f1)) b f2) : mT y o (α 0 0 0) β k b f1 f2 := by
  have h0 := hS.err 0
  obtain ⟨hn8, hn20, hn40, hn31, -⟩ := id hS.2.1
  rcases hA with ⟨rfl, t, rfl⟩ | ⟨rfl, r, fc1, hp, hd1, rfl⟩
  · have T : (¬ (inr p0 0 10000000)) := by
      obtain ⟨e, c⟩ := t
      exact c
    have F0 := T
    rcases hB with m1 | m2
    · obtain ⟨c, -, hm⟩ := m1
      exact mT.err hS hR hd 1 (by decide) hm
    · obtain ⟨d1, hb, hm⟩ := m2
      have g : inr p0 0 10000000 := d1
      exact absurd g F0
  · obtain ⟨h1, hr, hR2⟩ := hp
    have F0 : inr p0 0 10000000 := h1
    rcases hB with m1 | m2
    · obtain ⟨c, -, hm⟩ := m1
      have g : ¬ (inr p0 0 10000000) := c
      exact absurd F0 g
    · obtain ⟨d1, hb, hm⟩ := m2
      exact mT.ok (sim_floor hS h1) hR2 rfl hm (by rw [up2_n (by decide), up2_s, va_up_s]) (hr.trans (hS.2.2.2.2.2.1.2.1.trans hb.symm)) hd1
set_option maxHeartbeats 4000000 in
theorem mt_fill (hS : Sim μ κ nw no nt wk) (hR : Rc y nw no nt wk κ α f) (hd : fw_dis f (oC y o gl)) {p0 p1 : Int32} (hA : (fun k f1 => (k = 1 ∧ (fun E => (E = nIOB ∧ ¬ inr p0 0 2) ∨ (E = nIAE ∧ inr p0 0 2 ∧ ¬ inr p1 1 10000000) ∨ (E = nISE ∧ inr p0 0 2 ∧ inr p1 1 10000000 ∧ nt = 40)) nIOB ∧ f1 = fw_or f (oC y o gl)) ∨ (k = 2 ∧ (fun E => (E = nIOB ∧ ¬ inr p0 0 2) ∨ (E = nIAE ∧ inr p0 0 2 ∧ ¬ inr p1 1 10000000) ∨ (E = nISE ∧ inr p0 0 2 ∧ inr p1 1 10000000 ∧ nt = 40)) nIAE ∧ f1 = fw_or f (oC y o gl)) ∨ (k = 3 ∧ (fun E => (E = nIOB ∧ ¬ inr p0 0 2) ∨ (E = nIAE ∧ inr p0 0 2 ∧ ¬ inr p1 1 10000000) ∨ (E = nISE ∧ inr p0 0 2 ∧ inr p1 1 10000000 ∧ nt = 40)) nISE ∧ f1 = fw_or f (oC y o gl)) ∨ (k = 0 ∧ ∃ r fc1, (fun r f1 => ∃ ev α2, ev < 3 ∧ p0 = nI ev ∧ inr p1 1 10000000 ∧ nt < 40 ∧ r = nI nt ∧ α2 0 0 0 = α 0 0 0 ∧ Rc y nw no (nt + 1) wk (upF (upF κ 16 nt (orow ev p1 0 0)) 1 ev (va_up (va_up ((upF κ 16 nt (orow ev p1 0 0)) 1 ev) 0 (κ 1 ev 0 + (p1 - (if p1 < κ 1 ev 1 then p1 else κ 1 ev 1)))) 1 (κ 1 ev 1 - (if p1 < κ 1 ev 1 then p1 else κ 1 ev 1)))) α2 f1) r fc1 ∧ fw_dis fc1 (oC y o (oU gl r)) ∧ f1 = fw_or fc1 (oC y o (oU gl r)))) k f1) (hB : (fun r f1 => (¬ inr p0 0 2 ∧ r = 0 ∧ Rm y (up2 μ 0 0 1) β f1) ∨ (inr p0 0 2 ∧ ¬ inr p1 1 10000000 ∧ r = 0 ∧ Rm y (up2 μ 0 0 2) β f1) ∨ (inr p0 0 2 ∧ inr p1 1 10000000 ∧ nI nt = 40 ∧ r = 0 ∧ Rm y (up2 μ 0 0 3) β f1) ∨ (∃ ev, ev ≤ 2 ∧ p0 = nI ev ∧ inr p1 1 10000000 ∧ ¬ nI nt = 40 ∧ r = nI nt ∧ Rm y (up2 (up2 (up2 (up2 (up2 (up2 μ 0 0 0) 20 ev (μ 20 ev - (lst p1 (μ 20 ev)))) 19 ev (μ 19 ev + (p1 - (lst p1 (μ 20 ev))))) 22 nt p0) 23 nt p1) 21 0 (nI (nt + 1))) β f1)) b f2) : mT y o (α 0 0 0) β k b f1 f2 := by
  have h0 := hS.err 0
  obtain ⟨hn8, hn20, hn40, hn31, -⟩ := id hS.2.1
  rcases hA with ⟨rfl, t, rfl⟩ | ⟨rfl, t, rfl⟩ | ⟨rfl, t, rfl⟩ | ⟨rfl, r, fc1, hp, hd1, rfl⟩
  · have T : (¬ (inr p0 0 2)) := by
      rcases t with ⟨e, c⟩ | ⟨e, a1, c⟩ | ⟨e, a1, a2, c⟩
      · exact c
      · exact absurd e (by decide)
      · exact absurd e (by decide)
    have F0 := T
    rcases hB with m1 | m2 | m3 | m4
    · obtain ⟨c, -, hm⟩ := m1
      exact mT.err hS hR hd 1 (by decide) hm
    · obtain ⟨a1, c, -, hm⟩ := m2
      have g : inr p0 0 2 := a1
      exact absurd g F0
    · obtain ⟨a1, a2, c, -, hm⟩ := m3
      have g : inr p0 0 2 := a1
      exact absurd g F0
    · obtain ⟨wv, hw2, d0, d1, nn, hb, hm⟩ := m4
      have g : inr p0 0 2 := by rw [d0]; exact inr_nI (n := 2) hw2 (by decide)
      exact absurd g F0
  · have T : (inr p0 0 2) ∧ (¬ (inr p1 1 10000000)) := by
      rcases t with ⟨e, c⟩ | ⟨e, a1, c⟩ | ⟨e, a1, a2, c⟩
      · exact absurd e (by decide)
      · exact ⟨a1, c⟩
      · exact absurd e (by decide)
    obtain ⟨F0, F1⟩ := T
    rcases hB with m1 | m2 | m3 | m4
    · obtain ⟨c, -, hm⟩ := m1
      have g : ¬ (inr p0 0 2) := c
      exact absurd F0 g
    · obtain ⟨a1, c, -, hm⟩ := m2
      exact mT.err hS hR hd 2 (by decide) hm
    · obtain ⟨a1, a2, c, -, hm⟩ := m3
      have g : inr p1 1 10000000 := a2
      exact absurd g F1
    · obtain ⟨wv, hw2, d0, d1, nn, hb, hm⟩ := m4
      have g : inr p1 1 10000000 := d1
      exact absurd g F1
  · have T : (inr p0 0 2) ∧ (inr p1 1 10000000) ∧ (nt = 40) := by
      rcases t with ⟨e, c⟩ | ⟨e, a1, c⟩ | ⟨e, a1, a2, c⟩
      · exact absurd e (by decide)
      · exact absurd e (by decide)
      · exact ⟨a1, a2, c⟩
    obtain ⟨F0, F1, F2⟩ := T
    rcases hB with m1 | m2 | m3 | m4
    · obtain ⟨c, -, hm⟩ := m1
      have g : ¬ (inr p0 0 2) := c
      exact absurd F0 g
    · obtain ⟨a1, c, -, hm⟩ := m2
      have g : ¬ (inr p1 1 10000000) := c
      exact absurd F1 g
    · obtain ⟨a1, a2, c, -, hm⟩ := m3
      exact mT.err hS hR hd 3 (by decide) hm
    · obtain ⟨wv, hw2, d0, d1, nn, hb, hm⟩ := m4
      have g : ¬ (nt = 40) := fun z => nn (by rw [z]; rfl)
      exact absurd F2 g
  · obtain ⟨w, α2, hw, e0, h1, hn, hr, hα, hR2⟩ := hp
    have F0 : inr p0 0 2 := by rw [e0]; exact inr_nI (n := 2) (by omega) (by decide)
    have F1 : inr p1 1 10000000 := h1
    have F2 : ¬ (nt = 40) := by omega
    rcases hB with m1 | m2 | m3 | m4
    · obtain ⟨c, -, hm⟩ := m1
      have g : ¬ (inr p0 0 2) := c
      exact absurd F0 g
    · obtain ⟨a1, c, -, hm⟩ := m2
      have g : ¬ (inr p1 1 10000000) := c
      exact absurd F1 g
    · obtain ⟨a1, a2, c, -, hm⟩ := m3
      have g : nt = 40 := nI_inj2 (b := 40) c (by omega) (by decide)
      exact absurd g F2
    · obtain ⟨wv, hw2, d0, d1, nn, hb, hm⟩ := m4
      obtain rfl : w = wv := nI_inj2 (e0.symm.trans d0) (by omega) (by omega)
      exact mT.ok (sim_fill hS hw e0 hn) hR2 hα hm (by rw [up2_n (by decide), up2_n (by decide), up2_n (by decide), up2_n (by decide), up2_n (by decide), up2_s, va_up_s]) (hr.trans hb.symm) hd1
set_option maxHeartbeats 4000000 in
theorem mt_bounce (hS : Sim μ κ nw no nt wk) (hR : Rc y nw no nt wk κ α f) (hd : fw_dis f (oC y o gl)) {p0 : Int32} (hA : (fun k f1 => (k = 1 ∧ (fun E => (E = nIOB ∧ ¬ inr p0 0 (nI nt - 1)) ∨ (E = nISE ∧ ∃ t, t < nt ∧ p0 = nI t ∧ ¬ κ 16 t 2 = 0)) nIOB ∧ f1 = fw_or f (oC y o gl)) ∨ (k = 2 ∧ (fun E => (E = nIOB ∧ ¬ inr p0 0 (nI nt - 1)) ∨ (E = nISE ∧ ∃ t, t < nt ∧ p0 = nI t ∧ ¬ κ 16 t 2 = 0)) nISE ∧ f1 = fw_or f (oC y o gl)) ∨ (k = 0 ∧ ∃ r fc1, (fun r f1 => ∃ j ev, j < nt ∧ ev < 3 ∧ p0 = nI j ∧ κ 16 j 0 = nI ev ∧ κ 16 j 2 = 0 ∧ r = κ 1 ev 1 + (κ 16 j 1 - (if κ 16 j 1 < κ 1 ev 0 then κ 16 j 1 else κ 1 ev 0)) ∧ Rc y nw no nt wk (upF (upF κ 16 j (va_up (κ 16 j) 2 1)) 1 ev (va_up (va_up ((upF κ 16 j (va_up (κ 16 j) 2 1)) 1 ev) 0 (κ 1 ev 0 - (if κ 16 j 1 < κ 1 ev 0 then κ 16 j 1 else κ 1 ev 0))) 1 (κ 1 ev 1 + (κ 16 j 1 - (if κ 16 j 1 < κ 1 ev 0 then κ 16 j 1 else κ 1 ev 0))))) α f1) r fc1 ∧ fw_dis fc1 (oC y o (oU gl r)) ∧ f1 = fw_or fc1 (oC y o (oU gl r)))) k f1) (hB : (fun r f1 => (¬ inr p0 0 (nI nt - 1) ∧ r = 0 ∧ Rm y (up2 μ 0 0 1) β f1) ∨ ((∃ tv, tv < nt ∧ p0 = nI tv ∧ ¬ μ 24 tv = 0) ∧ r = 0 ∧ Rm y (up2 μ 0 0 2) β f1) ∨ (∃ tv ev, tv < nt ∧ ev < 3 ∧ p0 = nI tv ∧ μ 22 tv = nI ev ∧ μ 24 tv = 0 ∧ r = μ 20 ev + (μ 23 tv - (lst (μ 23 tv) (μ 19 ev))) ∧ Rm y (up2 (up2 (up2 (up2 μ 0 0 0) 24 tv 1) 19 ev (μ 19 ev - (lst (μ 23 tv) (μ 19 ev)))) 20 ev (μ 20 ev + (μ 23 tv - (lst (μ 23 tv) (μ 19 ev))))) β f1)) b f2) : mT y o (α 0 0 0) β k b f1 f2 := by
  have h0 := hS.err 0
  obtain ⟨hn8, hn20, hn40, hn31, -⟩ := id hS.2.1
  have hkm : ∀ t, t < nt → κ 16 t 2 = μ 24 t := fun t ht => (hS.2.2.2.2.2.2.2.1 t ht).2.2
  rcases hA with ⟨rfl, t, rfl⟩ | ⟨rfl, t, rfl⟩ | ⟨rfl, r, fc1, hp, hd1, rfl⟩
  · have T : (¬ (inr p0 0 (nI nt - 1))) := by
      rcases t with ⟨e, c⟩ | ⟨e, c⟩
      · exact c
      · exact absurd e (by decide)
    have F0 := T
    rcases hB with m1 | m2 | m3
    · obtain ⟨c, -, hm⟩ := m1
      exact mT.err hS hR hd 1 (by decide) hm
    · obtain ⟨⟨t, g0, g1, g2⟩, -, hm⟩ := m2
      have g : inr p0 0 (nI nt - 1) := by rw [g1]; exact inr_wI g0 (by omega)
      exact absurd g F0
    · obtain ⟨wv, ev2, hw2, he2, d0, m22, m24, hb, hm⟩ := m3
      have g : inr p0 0 (nI nt - 1) := by rw [d0]; exact inr_wI hw2 (by omega)
      exact absurd g F0
  · have T : (inr p0 0 (nI nt - 1)) ∧ (∃ t, t < nt ∧ p0 = nI t ∧ ¬ κ 16 t 2 = 0) := by
      rcases t with ⟨e, c⟩ | ⟨e, c⟩
      · exact absurd e (by decide)
      · exact ⟨by obtain ⟨t, g0, g1, g2⟩ := c; rw [g1]; exact inr_wI g0 (by omega), c⟩
    obtain ⟨F0, F1⟩ := T
    rcases hB with m1 | m2 | m3
    · obtain ⟨c, -, hm⟩ := m1
      have g : ¬ (inr p0 0 (nI nt - 1)) := c
      exact absurd F0 g
    · obtain ⟨⟨t, g0, g1, g2⟩, -, hm⟩ := m2
      exact mT.err hS hR hd 2 (by decide) hm
    · obtain ⟨wv, ev2, hw2, he2, d0, m22, m24, hb, hm⟩ := m3
      have g : ¬ (∃ t, t < nt ∧ p0 = nI t ∧ ¬ κ 16 t 2 = 0) := fun ⟨t, g0, g1, g2⟩ => by obtain rfl : wv = t := nI_inj2 (d0.symm.trans g1) (by omega) (by omega); exact g2 ((hkm wv hw2).trans m24)
      exact absurd F1 g
  · obtain ⟨w, ev, hw, he, e0, h16, h162, hr, hR2⟩ := hp
    have F0 : inr p0 0 (nI nt - 1) := by rw [e0]; exact inr_wI hw (by omega)
    have F1 : ¬ (∃ t, t < nt ∧ p0 = nI t ∧ ¬ κ 16 t 2 = 0) := fun ⟨t, g0, g1, g2⟩ => by obtain rfl : w = t := nI_inj2 (e0.symm.trans g1) (by omega) (by omega); exact g2 h162
    rcases hB with m1 | m2 | m3
    · obtain ⟨c, -, hm⟩ := m1
      have g : ¬ (inr p0 0 (nI nt - 1)) := c
      exact absurd F0 g
    · obtain ⟨⟨t, g0, g1, g2⟩, -, hm⟩ := m2
      have g : ∃ t, t < nt ∧ p0 = nI t ∧ ¬ κ 16 t 2 = 0 := ⟨t, g0, g1, by rw [hkm t g0]; exact g2⟩
      exact absurd g F1
    · obtain ⟨wv, ev2, hw2, he2, d0, m22, m24, hb, hm⟩ := m3
      obtain rfl : w = wv := nI_inj2 (e0.symm.trans d0) (by omega) (by omega)
      obtain rfl : ev = ev2 := nI_inj2 (h16.symm.trans (((hS.2.2.2.2.2.2.2.1 w hw).1).trans m22)) (by omega) (by omega)
      obtain ⟨q1, q2⟩ := sim_bounce hS hw he
      exact mT.ok q1 hR2 rfl hm (by rw [up2_n (by decide), up2_n (by decide), up2_n (by decide), up2_s, va_up_s]) (hr.trans (q2.trans hb.symm)) hd1
set_option maxHeartbeats 4000000 in
theorem mt_pot (hS : Sim μ κ nw no nt wk) (hR : Rc y nw no nt wk κ α f) (hd : fw_dis f (oC y o gl)) {p0 : Int32} (hA : (fun k f1 => (k = 1 ∧ (fun E => E = nIOB ∧ ¬ inr p0 0 2) nIOB ∧ f1 = fw_or f (oC y o gl)) ∨ (k = 0 ∧ ∃ r fc1, (fun r f1 => ∃ e, e < 3 ∧ p0 = nI e ∧ r = κ 1 e 0 ∧ f1 = f) r fc1 ∧ fw_dis fc1 (oC y o (oU gl r)) ∧ f1 = fw_or fc1 (oC y o (oU gl r)))) k f1) (hB : (fun r f1 => (¬ inr p0 0 2 ∧ r = 0 ∧ Rm y (up2 μ 0 0 1) β f1) ∨ (∃ ev, ev ≤ 2 ∧ p0 = nI ev ∧ r = μ 19 ev ∧ Rm y (up2 μ 0 0 0) β f1)) b f2) : mT y o (α 0 0 0) β k b f1 f2 := by
  have h0 := hS.err 0
  obtain ⟨hn8, hn20, hn40, hn31, -⟩ := id hS.2.1
  rcases hA with ⟨rfl, t, rfl⟩ | ⟨rfl, r, fc1, hp, hd1, rfl⟩
  · have T : (¬ (inr p0 0 2)) := by
      obtain ⟨e, c⟩ := t
      exact c
    have F0 := T
    rcases hB with m1 | m2
    · obtain ⟨c, -, hm⟩ := m1
      exact mT.err hS hR hd 1 (by decide) hm
    · obtain ⟨wv, hw2, d0, hb, hm⟩ := m2
      have g : inr p0 0 2 := by rw [d0]; exact inr_nI (n := 2) (by omega) (by decide)
      exact absurd g F0
  · obtain ⟨w, hw, e0, hr, rfl⟩ := hp
    have F0 : inr p0 0 2 := by rw [e0]; exact inr_nI (n := 2) (by omega) (by decide)
    rcases hB with m1 | m2
    · obtain ⟨c, -, hm⟩ := m1
      have g : ¬ (inr p0 0 2) := c
      exact absurd F0 g
    · obtain ⟨wv, hw2, d0, hb, hm⟩ := m2
      obtain rfl : w = wv := nI_inj2 (e0.symm.trans d0) (by omega) (by omega)
      exact mT.ok h0 hR rfl hm (by rw [up2_s, va_up_s]) (hr.trans (((hS.2.2.2.2.2.2.1 w hw).1).trans hb.symm)) hd1
set_option maxHeartbeats 4000000 in
theorem mt_shortage (hS : Sim μ κ nw no nt wk) (hR : Rc y nw no nt wk κ α f) (hd : fw_dis f (oC y o gl)) {p0 : Int32} (hA : (fun k f1 => (k = 1 ∧ (fun E => E = nIOB ∧ ¬ inr p0 0 2) nIOB ∧ f1 = fw_or f (oC y o gl)) ∨ (k = 0 ∧ ∃ r fc1, (fun r f1 => ∃ e, e < 3 ∧ p0 = nI e ∧ r = κ 1 e 1 ∧ f1 = f) r fc1 ∧ fw_dis fc1 (oC y o (oU gl r)) ∧ f1 = fw_or fc1 (oC y o (oU gl r)))) k f1) (hB : (fun r f1 => (¬ inr p0 0 2 ∧ r = 0 ∧ Rm y (up2 μ 0 0 1) β f1) ∨ (∃ ev, ev ≤ 2 ∧ p0 = nI ev ∧ r = μ 20 ev ∧ Rm y (up2 μ 0 0 0) β f1)) b f2) : mT y o (α 0 0 0) β k b f1 f2 := by
  have h0 := hS.err 0
  obtain ⟨hn8, hn20, hn40, hn31, -⟩ := id hS.2.1
  rcases hA with ⟨rfl, t, rfl⟩ | ⟨rfl, r, fc1, hp, hd1, rfl⟩
  · have T : (¬ (inr p0 0 2)) := by
      obtain ⟨e, c⟩ := t
      exact c
    have F0 := T
    rcases hB with m1 | m2
    · obtain ⟨c, -, hm⟩ := m1
      exact mT.err hS hR hd 1 (by decide) hm
    · obtain ⟨wv, hw2, d0, hb, hm⟩ := m2
      have g : inr p0 0 2 := by rw [d0]; exact inr_nI (n := 2) (by omega) (by decide)
      exact absurd g F0
  · obtain ⟨w, hw, e0, hr, rfl⟩ := hp
    have F0 : inr p0 0 2 := by rw [e0]; exact inr_nI (n := 2) (by omega) (by decide)
    rcases hB with m1 | m2
    · obtain ⟨c, -, hm⟩ := m1
      have g : ¬ (inr p0 0 2) := c
      exact absurd F0 g
    · obtain ⟨wv, hw2, d0, hb, hm⟩ := m2
      obtain rfl : w = wv := nI_inj2 (e0.symm.trans d0) (by omega) (by omega)
      exact mT.ok h0 hR rfl hm (by rw [up2_s, va_up_s]) (hr.trans (((hS.2.2.2.2.2.2.1 w hw).2).trans hb.symm)) hd1
set_option maxHeartbeats 4000000 in
theorem mt_close (hS : Sim μ κ nw no nt wk) (hR : Rc y nw no nt wk κ α f) (hd : fw_dis f (oC y o gl)) (hA : (fun k f1 => (k = 1 ∧ (fun E => E = nISE ∧ wk = 31) nISE ∧ f1 = fw_or f (oC y o gl)) ∨ (k = 0 ∧ ∃ r fc1, (fun r f1 => wk < 31 ∧ r = (csC κ nw no wk 8).2 ∧ ∃ α2, α2 0 0 0 = α 0 0 0 ∧ Rc y nw no nt (wk + 1) (csC κ nw no wk 8).1 α2 f1) r fc1 ∧ fw_dis fc1 (oC y o (oU gl r)) ∧ f1 = fw_or fc1 (oC y o (oU gl r)))) k f1) (hB : (fun r f1 => (nI wk = 31 ∧ r = 0 ∧ Rm y (up2 μ 0 0 1) β f1) ∨ (¬ nI wk = 31 ∧ r = (csA (up2 μ 0 0 0) wk no nw).2 ∧ Rm y (up2 (csA (up2 μ 0 0 0) wk no nw).1 1 0 (nI (wk + 1))) β f1)) b f2) : mT y o (α 0 0 0) β k b f1 f2 := by
  have h0 := hS.err 0
  obtain ⟨hn8, hn20, hn40, hn31, -⟩ := id hS.2.1
  rcases hA with ⟨rfl, t, rfl⟩ | ⟨rfl, r, fc1, hp, hd1, rfl⟩
  · have T : (wk = 31) := by
      obtain ⟨e, c⟩ := t
      exact c
    have F0 := T
    rcases hB with m1 | m2
    · obtain ⟨c, -, hm⟩ := m1
      exact mT.err hS hR hd 1 (by decide) hm
    · obtain ⟨nn, hb, hm⟩ := m2
      have g : ¬ (wk = 31) := fun z => nn (by rw [z]; rfl)
      exact absurd F0 g
  · obtain ⟨hk, hr, α2, hα, hR2⟩ := hp
    have F0 : ¬ (wk = 31) := by omega
    rcases hB with m1 | m2
    · obtain ⟨c, -, hm⟩ := m1
      have g : wk = 31 := nI_inj2 (b := 31) c (by omega) (by decide)
      exact absurd g F0
    · obtain ⟨nn, hb, hm⟩ := m2
      obtain ⟨q1, q2⟩ := sim_close hS hk
      exact mT.ok q1 hR2 hα hm (by rw [up2_n (by decide), csA_0, up2_s, va_up_s]) (hr.trans (q2.trans hb.symm)) hd1
set_option maxHeartbeats 4000000 in
theorem mt_slip (hS : Sim μ κ nw no nt wk) (hR : Rc y nw no nt wk κ α f) (hd : fw_dis f (oC y o gl)) {p0 p1 p2 : Int32} (hA : (fun k f1 => (k = 1 ∧ (fun E => (E = nIOB ∧ ¬ inr p0 0 (nI nw - 1)) ∨ (E = nIAE ∧ inr p0 0 (nI nw - 1) ∧ ¬ (inr p1 0 30 ∧ inr p2 0 3))) nIOB ∧ f1 = fw_or f (oC y o gl)) ∨ (k = 2 ∧ (fun E => (E = nIOB ∧ ¬ inr p0 0 (nI nw - 1)) ∨ (E = nIAE ∧ inr p0 0 (nI nw - 1) ∧ ¬ (inr p1 0 30 ∧ inr p2 0 3))) nIAE ∧ f1 = fw_or f (oC y o gl)) ∨ (k = 0 ∧ ∃ r fc1, (fun r f1 => ∃ w kv pv, w < nw ∧ kv ≤ 30 ∧ pv ≤ 3 ∧ p0 = nI w ∧ p1 = nI kv ∧ p2 = nI pv ∧ r = spC κ w kv pv ∧ f1 = f) r fc1 ∧ fw_dis fc1 (oC y o (oU gl r)) ∧ f1 = fw_or fc1 (oC y o (oU gl r)))) k f1) (hB : (fun r f1 => (¬ inr p0 0 (nI nw - 1) ∧ r = 0 ∧ Rm y (up2 μ 0 0 1) β f1) ∨ (inr p0 0 (nI nw - 1) ∧ ¬ (inr p1 0 30 ∧ inr p2 0 3) ∧ r = 0 ∧ Rm y (up2 μ 0 0 2) β f1) ∨ (∃ wv kv pv, wv < nw ∧ kv ≤ 30 ∧ pv ≤ 3 ∧ p0 = nI wv ∧ p1 = nI kv ∧ p2 = nI pv ∧ r = μ 12 (4 * (31 * wv + kv) + pv) ∧ Rm y (up2 μ 0 0 0) β f1)) b f2) : mT y o (α 0 0 0) β k b f1 f2 := by
  have h0 := hS.err 0
  obtain ⟨hn8, hn20, hn40, hn31, -⟩ := id hS.2.1
  rcases hA with ⟨rfl, t, rfl⟩ | ⟨rfl, t, rfl⟩ | ⟨rfl, r, fc1, hp, hd1, rfl⟩
  · have T : (¬ (inr p0 0 (nI nw - 1))) := by
      rcases t with ⟨e, c⟩ | ⟨e, a1, c⟩
      · exact c
      · exact absurd e (by decide)
    have F0 := T
    rcases hB with m1 | m2 | m3
    · obtain ⟨c, -, hm⟩ := m1
      exact mT.err hS hR hd 1 (by decide) hm
    · obtain ⟨a1, c, -, hm⟩ := m2
      have g : inr p0 0 (nI nw - 1) := a1
      exact absurd g F0
    · obtain ⟨wv, kv2, pv2, hw2, hk2, hp2, d0, d1, d2, hb, hm⟩ := m3
      have g : inr p0 0 (nI nw - 1) := by rw [d0]; exact inr_wI hw2 (by omega)
      exact absurd g F0
  · have T : (inr p0 0 (nI nw - 1)) ∧ (¬ (inr p1 0 30 ∧ inr p2 0 3)) := by
      rcases t with ⟨e, c⟩ | ⟨e, a1, c⟩
      · exact absurd e (by decide)
      · exact ⟨a1, c⟩
    obtain ⟨F0, F1⟩ := T
    rcases hB with m1 | m2 | m3
    · obtain ⟨c, -, hm⟩ := m1
      have g : ¬ (inr p0 0 (nI nw - 1)) := c
      exact absurd F0 g
    · obtain ⟨a1, c, -, hm⟩ := m2
      exact mT.err hS hR hd 2 (by decide) hm
    · obtain ⟨wv, kv2, pv2, hw2, hk2, hp2, d0, d1, d2, hb, hm⟩ := m3
      have g : inr p1 0 30 ∧ inr p2 0 3 := ⟨by rw [d1]; exact inr_nI (n := 30) hk2 (by decide), by rw [d2]; exact inr_nI (n := 3) hp2 (by decide)⟩
      exact absurd g F1
  · obtain ⟨w, kv, pv, hw, hk, hp3, e0, e1, e2, hr, rfl⟩ := hp
    have F0 : inr p0 0 (nI nw - 1) := by rw [e0]; exact inr_wI hw (by omega)
    have F1 : inr p1 0 30 ∧ inr p2 0 3 := ⟨by rw [e1]; exact inr_nI (n := 30) hk (by decide), by rw [e2]; exact inr_nI (n := 3) hp3 (by decide)⟩
    rcases hB with m1 | m2 | m3
    · obtain ⟨c, -, hm⟩ := m1
      have g : ¬ (inr p0 0 (nI nw - 1)) := c
      exact absurd F0 g
    · obtain ⟨a1, c, -, hm⟩ := m2
      have g : ¬ (inr p1 0 30 ∧ inr p2 0 3) := c
      exact absurd F1 g
    · obtain ⟨wv, kv2, pv2, hw2, hk2, hp2, d0, d1, d2, hb, hm⟩ := m3
      obtain rfl : w = wv := nI_inj2 (e0.symm.trans d0) (by omega) (by omega)
      obtain rfl : kv = kv2 := nI_inj2 (e1.symm.trans d1) (by omega) (by omega)
      obtain rfl : pv = pv2 := nI_inj2 (e2.symm.trans d2) (by omega) (by omega)
      exact mT.ok h0 hR rfl hm (by rw [up2_s, va_up_s]) (hr.trans (((hS.2.2.1 w hw).2.2.2.2.2.2.2.2.2.1 kv pv (by omega) (by omega)).trans hb.symm)) hd1
set_option maxHeartbeats 4000000 in
theorem mt_toTakeBack (hS : Sim μ κ nw no nt wk) (hR : Rc y nw no nt wk κ α f) (hd : fw_dis f (oC y o gl)) {p0 : Int32} (hA : (fun k f1 => (k = 1 ∧ (fun E => E = nIOB ∧ ¬ inr p0 0 (nI nw - 1)) nIOB ∧ f1 = fw_or f (oC y o gl)) ∨ (k = 0 ∧ ∃ r fc1, (fun r f1 => ∃ w, w < nw ∧ p0 = nI w ∧ r = κ 4 w 3 ∧ f1 = f) r fc1 ∧ fw_dis fc1 (oC y o (oU gl r)) ∧ f1 = fw_or fc1 (oC y o (oU gl r)))) k f1) (hB : (fun r f1 => (¬ inr p0 0 (nI nw - 1) ∧ r = 0 ∧ Rm y (up2 μ 0 0 1) β f1) ∨ (∃ wv, wv < nw ∧ p0 = nI wv ∧ r = μ 11 wv ∧ Rm y (up2 μ 0 0 0) β f1)) b f2) : mT y o (α 0 0 0) β k b f1 f2 := by
  have h0 := hS.err 0
  obtain ⟨hn8, hn20, hn40, hn31, -⟩ := id hS.2.1
  rcases hA with ⟨rfl, t, rfl⟩ | ⟨rfl, r, fc1, hp, hd1, rfl⟩
  · have T : (¬ (inr p0 0 (nI nw - 1))) := by
      obtain ⟨e, c⟩ := t
      exact c
    have F0 := T
    rcases hB with m1 | m2
    · obtain ⟨c, -, hm⟩ := m1
      exact mT.err hS hR hd 1 (by decide) hm
    · obtain ⟨wv, hw2, d0, hb, hm⟩ := m2
      have g : inr p0 0 (nI nw - 1) := by rw [d0]; exact inr_wI hw2 (by omega)
      exact absurd g F0
  · obtain ⟨w, hw, e0, hr, rfl⟩ := hp
    have F0 : inr p0 0 (nI nw - 1) := by rw [e0]; exact inr_wI hw (by omega)
    rcases hB with m1 | m2
    · obtain ⟨c, -, hm⟩ := m1
      have g : ¬ (inr p0 0 (nI nw - 1)) := c
      exact absurd F0 g
    · obtain ⟨wv, hw2, d0, hb, hm⟩ := m2
      obtain rfl : w = wv := nI_inj2 (e0.symm.trans d0) (by omega) (by omega)
      exact mT.ok h0 hR rfl hm (by rw [up2_s, va_up_s]) (hr.trans (((hS.2.2.1 w hw).2.2.2.1).trans hb.symm)) hd1
set_option maxHeartbeats 4000000 in
theorem mt_claim (hS : Sim μ κ nw no nt wk) (hR : Rc y nw no nt wk κ α f) (hd : fw_dis f (oC y o gl)) {p0 : Int32} (hA : (fun k f1 => (k = 1 ∧ (fun E => E = nIOB ∧ ¬ inr p0 0 (nI nw - 1)) nIOB ∧ f1 = fw_or f (oC y o gl)) ∨ (k = 0 ∧ ∃ r fc1, (fun r f1 => ∃ w, w < nw ∧ p0 = nI w ∧ r = clC κ wk w ∧ f1 = f) r fc1 ∧ fw_dis fc1 (oC y o (oU gl r)) ∧ f1 = fw_or fc1 (oC y o (oU gl r)))) k f1) (hB : (fun r f1 => (¬ inr p0 0 (nI nw - 1) ∧ r = 0 ∧ Rm y (up2 μ 0 0 1) β f1) ∨ (∃ wv, wv < nw ∧ p0 = nI wv ∧ r = clM (up2 μ 0 0 0) wv ∧ Rm y (up2 μ 0 0 0) β f1)) b f2) : mT y o (α 0 0 0) β k b f1 f2 := by
  have h0 := hS.err 0
  obtain ⟨hn8, hn20, hn40, hn31, -⟩ := id hS.2.1
  rcases hA with ⟨rfl, t, rfl⟩ | ⟨rfl, r, fc1, hp, hd1, rfl⟩
  · have T : (¬ (inr p0 0 (nI nw - 1))) := by
      obtain ⟨e, c⟩ := t
      exact c
    have F0 := T
    rcases hB with m1 | m2
    · obtain ⟨c, -, hm⟩ := m1
      exact mT.err hS hR hd 1 (by decide) hm
    · obtain ⟨wv, hw2, d0, hb, hm⟩ := m2
      have g : inr p0 0 (nI nw - 1) := by rw [d0]; exact inr_wI hw2 (by omega)
      exact absurd g F0
  · obtain ⟨w, hw, e0, hr, rfl⟩ := hp
    have F0 : inr p0 0 (nI nw - 1) := by rw [e0]; exact inr_wI hw (by omega)
    rcases hB with m1 | m2
    · obtain ⟨c, -, hm⟩ := m1
      have g : ¬ (inr p0 0 (nI nw - 1)) := c
      exact absurd F0 g
    · obtain ⟨wv, hw2, d0, hb, hm⟩ := m2
      obtain rfl : w = wv := nI_inj2 (e0.symm.trans d0) (by omega) (by omega)
      exact mT.ok h0 hR rfl hm (by rw [up2_s, va_up_s]) (hr.trans ((sW.cl h0.2.1 h0.1 hw (h0.2.2.1 w hw) h0.2.2.2.2.1).trans hb.symm)) hd1
set_option maxHeartbeats 4000000 in
theorem mt_claimBySlips (hS : Sim μ κ nw no nt wk) (hR : Rc y nw no nt wk κ α f) (hd : fw_dis f (oC y o gl)) {p0 : Int32} (hA : (fun k f1 => (k = 1 ∧ (fun E => E = nIOB ∧ ¬ inr p0 0 (nI nw - 1)) nIOB ∧ f1 = fw_or f (oC y o gl)) ∨ (k = 0 ∧ ∃ r fc1, (fun r f1 => ∃ w, w < nw ∧ p0 = nI w ∧ r = ssC κ w (duC κ w 0 (nI wk) + κ 4 w 4) 31 ∧ f1 = f) r fc1 ∧ fw_dis fc1 (oC y o (oU gl r)) ∧ f1 = fw_or fc1 (oC y o (oU gl r)))) k f1) (hB : (fun r f1 => (¬ inr p0 0 (nI nw - 1) ∧ r = 0 ∧ Rm y (up2 μ 0 0 1) β f1) ∨ (∃ wv, wv < nw ∧ p0 = nI wv ∧ r = clM (up2 μ 0 0 0) wv ∧ Rm y (up2 μ 0 0 0) β f1)) b f2) : mT y o (α 0 0 0) β k b f1 f2 := by
  have h0 := hS.err 0
  obtain ⟨hn8, hn20, hn40, hn31, -⟩ := id hS.2.1
  rcases hA with ⟨rfl, t, rfl⟩ | ⟨rfl, r, fc1, hp, hd1, rfl⟩
  · have T : (¬ (inr p0 0 (nI nw - 1))) := by
      obtain ⟨e, c⟩ := t
      exact c
    have F0 := T
    rcases hB with m1 | m2
    · obtain ⟨c, -, hm⟩ := m1
      exact mT.err hS hR hd 1 (by decide) hm
    · obtain ⟨wv, hw2, d0, hb, hm⟩ := m2
      have g : inr p0 0 (nI nw - 1) := by rw [d0]; exact inr_wI hw2 (by omega)
      exact absurd g F0
  · obtain ⟨w, hw, e0, hr, rfl⟩ := hp
    have F0 : inr p0 0 (nI nw - 1) := by rw [e0]; exact inr_wI hw (by omega)
    rcases hB with m1 | m2
    · obtain ⟨c, -, hm⟩ := m1
      have g : ¬ (inr p0 0 (nI nw - 1)) := c
      exact absurd F0 g
    · obtain ⟨wv, hw2, d0, hb, hm⟩ := m2
      obtain rfl : w = wv := nI_inj2 (e0.symm.trans d0) (by omega) (by omega)
      exact mT.ok h0 hR rfl hm (by rw [up2_s, va_up_s]) (hr.trans (((cbs_eq (h0.2.2.1 w hw).2.2.2.2.2.2.2.2.2.2.2).trans (sW.cl h0.2.1 h0.1 hw (h0.2.2.1 w hw) h0.2.2.2.2.1)).trans hb.symm)) hd1
end MT
