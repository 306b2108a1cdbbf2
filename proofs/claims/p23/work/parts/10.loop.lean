/-! LOOPS AND JOINS over functional worlds -/
section FWL
variable {p : Program} {l : Launch} {e : Env} {R : Room} {s : State} {m : MethodId} {args : Array Value} {below : List Frame} {meth : Method} {c : Code} {Q : State → Prop} {D : va_G} {A : Nat → Prop} {H0 : Heap}
theorem fw_loop {α : Type} (pc2 nL : Nat) (μ : α → Nat) (P : α → Prop) (f2 : α → fw_F) (lv : α → List (Nat × Value)) (st : α → List Value) (cl sl : α → Nat)
    (step : ∀ (r : α) (H : Heap) (locs : List Loc) (ls : Array Slot), P r → fw_S D A H0 (f2 r) H locs → lv_has ls nL (lv r) →
      (∀ (r' : α) (H : Heap) (locs : List Loc) (ls : Array Slot), μ r' < μ r → P r' → fw_S D A H0 (f2 r') H locs → lv_has ls nL (lv r') → W p l e R s m args below meth c H locs (cl r') (sl r') Q (F0 m pc2 ls (st r'))) →
      W p l e R s m args below meth c H locs (cl r) (sl r) Q (F0 m pc2 ls (st r)))
    (r : α) (H : Heap) (locs : List Loc) (ls : Array Slot) (hP : P r) (hw : fw_S D A H0 (f2 r) H locs) (hl : lv_has ls nL (lv r)) : W p l e R s m args below meth c H locs (cl r) (sl r) Q (F0 m pc2 ls (st r)) := by
  have key : ∀ (n : Nat) (r : α) (H : Heap) (locs : List Loc) (ls : Array Slot), μ r < n → P r → fw_S D A H0 (f2 r) H locs → lv_has ls nL (lv r) → W p l e R s m args below meth c H locs (cl r) (sl r) Q (F0 m pc2 ls (st r)) := by
    intro n
    induction n with
    | zero => intro r H locs ls h; exact absurd h (Nat.not_lt_zero _)
    | succ n ih => exact fun r H locs ls h hP hw hl => step r H locs ls hP hw hl (fun r' H locs ls h' => ih r' H locs ls (by omega))
  exact key (μ r + 1) r H locs ls (Nat.lt_succ_self _) hP hw hl
/-- a place where roads meet -/
theorem fw_cut {α : Type} {H : Heap} {locs : List Loc} {cells slots : Nat} {g : JFrame} (pc2 nL : Nat) (P : α → Prop) (f2 : α → fw_F) (lv : α → List (Nat × Value)) (st : α → List Value) (cl sl : α → Nat)
    (k : ∀ (r : α) (H : Heap) (locs : List Loc) (ls : Array Slot), P r → fw_S D A H0 (f2 r) H locs → lv_has ls nL (lv r) → W p l e R s m args below meth c H locs (cl r) (sl r) Q (F0 m pc2 ls (st r)))
    (h : (∀ (r : α) (H : Heap) (locs : List Loc) (ls : Array Slot), P r → fw_S D A H0 (f2 r) H locs → lv_has ls nL (lv r) → W p l e R s m args below meth c H locs (cl r) (sl r) Q (F0 m pc2 ls (st r))) → W p l e R s m args below meth c H locs cells slots Q g) : W p l e R s m args below meth c H locs cells slots Q g := h k
end FWL
theorem lv_refl {ls : Array Slot} {nL : Nat} {l : List (Nat × Value)} (h : lv_has ls nL l) : lv_has ls nL l := h
/-- the first i of a row are v -/
def fillv (v : Int32) (i : Nat) : Nat → Int32 := fun k => if k < i then v else 0
theorem fillv_0 {v : Int32} : fillv v 0 = fun _ => 0 := by
  funext k
  simp [fillv]
theorem fillv_s {v : Int32} {i : Nat} : va_up (fillv v i) i v = fillv v (i + 1) := by
  funext k
  simp only [va_up, fillv]
  by_cases h : k = i
  · simp [h]
  · by_cases h2 : k < i
    · simp [h, h2, Nat.lt_succ_of_lt h2]
    · have : ¬ k < i + 1 := by omega
      simp [h, h2, this]
/-- from i on, as long as nothing was told, the value v -/
def tlV (told : Nat → Int32) (v : Int32) : Nat → Nat → (Nat → Int32) → (Nat → Int32)
  | 0, _, g => g
  | n + 1, i, g => if told i = 0 then tlV told v n (i + 1) (va_up g i v) else g
/-- how far a row of references goes without a gap -/
def cntU (S : Nat → Option Nat) : Nat → Nat → Nat
  | 0, k => k
  | n + 1, k => if (S k).isSome = true then cntU S n (k + 1) else k
theorem cntU_le {S : Nat → Option Nat} : ∀ (n k : Nat), cntU S n k ≤ k + n := by
  intro n
  induction n with
  | zero => intro k; exact Nat.le_refl _
  | succ n ih =>
    intro k
    unfold cntU
    split
    · have := ih (k + 1)
      omega
    · omega
theorem fw_up_c {f : fw_F} {a b : Nat} {e e2 : va_E} (h : a ≠ b) : fw_up (fw_up f a e) b e2 = fw_up (fw_up f b e2) a e := by
  funext j
  unfold fw_up
  by_cases h1 : j = a
  · by_cases h2 : j = b
    · exact absurd (h1.symm.trans h2) h
    · simp [h1, h]
  · by_cases h2 : j = b
    · have h3 : ¬ b = a := Ne.symm h
      simp [h2, h3]
    · simp [h1, h2]
theorem fw_up_up {f : fw_F} {a : Nat} {e e2 : va_E} : fw_up (fw_up f a e) a e2 = fw_up f a e2 := by
  funext j
  unfold fw_up
  by_cases h : j = a <;> simp [h]
/-- what Order.payOff answers -/
def payv (there left most : Int32) : Int32 := if (0 : Int32) < (if (if most < left then most else left) < there then (if most < left then most else left) else there) then (if (if most < left then most else left) < there then (if most < left then most else left) else there) else 0
theorem fw_ne {f : fw_F} {a b : Nat} {e : va_E} (h : f a = some e) (hn : f b = none) : a ≠ b := fun z => by rw [z, hn] at h; cases h
theorem nI_hi {i n : Nat} (h : ¬ nI n ≤ nI i) (hi : i < 2 ^ 31) : i < n := by
  rcases Nat.lt_or_ge i n with z | z
  · exact z
  · exact absurd (nI_le z hi) h
theorem nI_eqn {i n : Nat} (h : nI n ≤ nI i) (h2 : i ≤ n) (hn : n < 2 ^ 31) : i = n := by
  rcases Nat.lt_or_ge i n with z | z
  · exact absurd h (nI_ge z hn)
  · omega
theorem fw_up_o {f : fw_F} {a b : Nat} {e : va_E} (h : fw_up f a e b = none) : f b = none := by
  by_cases z : b = a
  · rw [z, fw_up_s] at h
    cases h
  · rw [fw_up_n z] at h
    exact h
theorem fw_inB {i N : Int32} {n : Nat} (hN : N.toInt = n) (h0 : ¬ i < 0) (h1 : ¬ N ≤ i) : vp_in i n := by
  rw [vp_in_iff]
  rw [Int32.lt_iff_toInt_lt] at h0
  rw [Int32.le_iff_toInt_le] at h1
  have hz : (0 : Int32).toInt = 0 := rfl
  omega
theorem fw_ne2 {f : fw_F} {a b : Nat} {e1 e2 : va_E} (h : f a = some e1) (h2 : f b = some e2) (hn : e1 ≠ e2) : a ≠ b := fun z => by
  rw [z, h2] at h
  exact hn (Option.some.inj h).symm
theorem fw_up_id {f : fw_F} {a : Nat} {e : va_E} (h : f a = some e) : fw_up f a e = f := by
  funext j
  unfold fw_up
  by_cases z : j = a
  · simp [z, h]
  · simp [z]
