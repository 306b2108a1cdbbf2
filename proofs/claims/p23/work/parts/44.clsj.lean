theorem app1 {L : List (Nat × va_E)} {x z : Nat × va_E} {i : Nat} (h : (L ++ [x])[i]? = some z) : (L[i]? = some z ∧ i < L.length) ∨ (i = L.length ∧ z = x) := by
  rcases Nat.lt_trichotomy i L.length with q | q | q
  · rw [List.getElem?_append_left q] at h
    exact Or.inl ⟨h, q⟩
  · subst q
    rw [List.getElem?_concat_length] at h
    exact Or.inr ⟨rfl, (Option.some.inj h).symm⟩
  · rw [List.getElem?_eq_none (by simp only [List.length_append, List.length_cons, List.length_nil]; omega)] at h
    cases h
/-- cells of one's own: their places differ, and the world holds them -/
def Own (f : fw_F) (L : List (Nat × va_E)) : Prop := (∀ (i j a : Nat) (e e' : va_E), L[i]? = some (a, e) → L[j]? = some (a, e') → i = j) ∧ ∀ (i a : Nat) (e : va_E), L[i]? = some (a, e) → f a = some e
theorem Own.get {f : fw_F} {L : List (Nat × va_E)} (h : Own f L) {i a : Nat} {e : va_E} (hi : L[i]? = some (a, e)) : f a = some e := h.2 i a e hi
theorem Own.new {f : fw_F} {L : List (Nat × va_E)} (h : Own f L) {a : Nat} {e : va_E} (hn : f a = none) : Own (fw_up f a e) (L ++ [(a, e)]) := by
  refine ⟨fun i j b e1 e2 h1 h2 => ?_, fun i b e1 h1 => ?_⟩
  · rcases app1 h1 with ⟨p1, q1⟩ | ⟨p1, q1⟩ <;> rcases app1 h2 with ⟨p2, q2⟩ | ⟨p2, q2⟩
    · exact h.1 i j b e1 e2 p1 p2
    · cases q2
      exact absurd (h.2 i _ e1 p1) (by rw [hn]; exact fun z => nomatch z)
    · cases q1
      exact absurd (h.2 j _ e2 p2) (by rw [hn]; exact fun z => nomatch z)
    · omega
  · rcases app1 h1 with ⟨p1, q1⟩ | ⟨p1, q1⟩
    · have z := h.2 i b e1 p1
      rw [fw_up_n (fw_ne z hn)]
      exact z
    · cases q1
      exact fw_up_s
theorem Own.set {f : fw_F} {L : List (Nat × va_E)} (h : Own f L) {i a : Nat} {e0 e : va_E} (hi : L[i]? = some (a, e0)) : Own (fw_up f a e) (L.set i (a, e)) := by
  have hlt : i < L.length := by
    rcases Nat.lt_or_ge i L.length with q | q
    · exact q
    · rw [List.getElem?_eq_none q] at hi
      cases hi
  have key : ∀ {j b : Nat} {e1 : va_E}, (L.set i (a, e))[j]? = some (b, e1) → (j = i ∧ b = a ∧ e1 = e) ∨ (j ≠ i ∧ L[j]? = some (b, e1)) := by
    intro j b e1 hj
    rw [List.getElem?_set] at hj
    by_cases q : i = j
    · rw [if_pos q, if_pos (by omega)] at hj
      cases hj
      exact Or.inl ⟨q.symm, rfl, rfl⟩
    · rw [if_neg q] at hj
      exact Or.inr ⟨fun z => q z.symm, hj⟩
  refine ⟨fun j k b e1 e2 h1 h2 => ?_, fun j b e1 h1 => ?_⟩
  · rcases key h1 with ⟨p1, q1, r1⟩ | ⟨p1, q1⟩ <;> rcases key h2 with ⟨p2, q2, r2⟩ | ⟨p2, q2⟩
    · omega
    · subst q1
      exact p1.trans (h.1 i k b e0 e2 hi q2)
    · subst q2
      exact (h.1 j i b e1 e0 q1 hi).trans p2.symm
    · exact h.1 j k b e1 e2 q1 q2
  · rcases key h1 with ⟨p1, q1, r1⟩ | ⟨p1, q1⟩
    · subst q1 r1
      exact fw_up_s
    · rw [fw_up_n (fun z => p1 (h.1 j i b e1 e0 q1 (by rw [z]; exact hi)))]
      exact h.2 j b e1 q1
theorem Own.six {f f1 : fw_F} {L : List (Nat × va_E)} (h : Own f L) {i h0 q v t q2 v2 t2 : Nat} {x0 c0 c1 c2 c3 c4 c5 c6 : va_E} (hi : L[i]? = some (h0, x0))
    (n1 : f q = none) (n2 : f v = none) (n3 : f t = none) (n4 : f q2 = none) (n5 : f v2 = none) (n6 : f t2 = none) (hnd : [q, v, t, q2, v2, t2].Nodup)
    (k0 : f1 h0 = some c0) (k1 : f1 q = some c1) (k2 : f1 v = some c2) (k3 : f1 t = some c3) (k4 : f1 q2 = some c4) (k5 : f1 v2 = some c5) (k6 : f1 t2 = some c6)
    (ho : ∀ b, b ≠ h0 → b ≠ q → b ≠ v → b ≠ t → b ≠ q2 → b ≠ v2 → b ≠ t2 → f1 b = f b) :
    Own f1 (((((((L.set i (h0, c0)) ++ [(q, c1)]) ++ [(v, c2)]) ++ [(t, c3)]) ++ [(q2, c4)]) ++ [(v2, c5)]) ++ [(t2, c6)]) := by
  have h00 := h.2 i h0 x0 hi
  have m1 := fw_ne h00 n1
  have m2 := fw_ne h00 n2
  have m3 := fw_ne h00 n3
  have m4 := fw_ne h00 n4
  have m5 := fw_ne h00 n5
  have m6 := fw_ne h00 n6
  simp only [List.nodup_cons, List.mem_cons, List.not_mem_nil, or_false, not_or] at hnd
  obtain ⟨⟨a1, a2, a3, a4, a5⟩, ⟨b1, b2, b3, b4⟩, ⟨d1, d2, d3⟩, ⟨g1, g2⟩, i1, -⟩ := hnd
  have hf : f1 = fw_up (fw_up (fw_up (fw_up (fw_up (fw_up (fw_up f h0 c0) q c1) v c2) t c3) q2 c4) v2 c5) t2 c6 := by
    funext b
    by_cases z6 : b = t2
    · rw [z6, fw_up_s]; exact k6
    rw [fw_up_n z6]
    by_cases z5 : b = v2
    · rw [z5, fw_up_s]; exact k5
    rw [fw_up_n z5]
    by_cases z4 : b = q2
    · rw [z4, fw_up_s]; exact k4
    rw [fw_up_n z4]
    by_cases z3 : b = t
    · rw [z3, fw_up_s]; exact k3
    rw [fw_up_n z3]
    by_cases z2 : b = v
    · rw [z2, fw_up_s]; exact k2
    rw [fw_up_n z2]
    by_cases z1 : b = q
    · rw [z1, fw_up_s]; exact k1
    rw [fw_up_n z1]
    by_cases z0 : b = h0
    · rw [z0, fw_up_s]; exact k0
    rw [fw_up_n z0]
    exact ho b z0 z1 z2 z3 z4 z5 z6
  have o0 := h.set (e := c0) hi
  have o1 := o0.new (a := q) (e := c1) (by rw [fw_up_n (Ne.symm m1)]; exact n1)
  have o2 := o1.new (a := v) (e := c2) (by rw [fw_up_n (Ne.symm a1), fw_up_n (Ne.symm m2)]; exact n2)
  have o3 := o2.new (a := t) (e := c3) (by rw [fw_up_n (Ne.symm b1), fw_up_n (Ne.symm a2), fw_up_n (Ne.symm m3)]; exact n3)
  have o4 := o3.new (a := q2) (e := c4) (by rw [fw_up_n (Ne.symm d1), fw_up_n (Ne.symm b2), fw_up_n (Ne.symm a3), fw_up_n (Ne.symm m4)]; exact n4)
  have o5 := o4.new (a := v2) (e := c5) (by rw [fw_up_n (Ne.symm g1), fw_up_n (Ne.symm d2), fw_up_n (Ne.symm b3), fw_up_n (Ne.symm a4), fw_up_n (Ne.symm m5)]; exact n5)
  have o6 := o5.new (a := t2) (e := c6) (by rw [fw_up_n (Ne.symm i1), fw_up_n (Ne.symm g2), fw_up_n (Ne.symm d3), fw_up_n (Ne.symm b4), fw_up_n (Ne.symm a5), fw_up_n (Ne.symm m6)]; exact n6)
  rw [hf]
  exact o6
def kap0 : cS := fun a b => match a with
  | 0 => fun _ => 20000
  | 2 => if b % 2 = 0 then fillv 1000 31 else fillv 1500 31
  | _ => fun _ => 0
theorem kap0_e {i : Nat} : kap0 2 (2 * i) = fillv 1000 31 := if_pos (by omega)
theorem kap0_o {i : Nat} : kap0 2 (2 * i + 1) = fillv 1500 31 := if_neg (by omega)
def al0 (A : Nat → Nat) : Nat → Nat → Nat → Nat := fun k i j => A (match k with
  | 0 => j
  | 1 => 6 + i
  | _ => 9 + 7 * i + j)
/-- the places of the new object's cells, by kinds -/
theorem live0 {y : Nat → ClassId} {α : Nat → Nat → Nat → Nat} {k i j : Nat} (h : cellC y 0 0 0 0 kap0 α k i j ≠ none) : (k = 0 ∧ i = 0 ∧ j < 6) ∨ (k = 1 ∧ i < 3 ∧ j = 0) ∨ (k = 2 ∧ i < 3 ∧ j < 7) := by
  match k with
  | 0 =>
    rw [ce0] at h
    by_cases q : i = 0
    · match j with
      | 0 => omega
      | 1 => omega
      | 2 => omega
      | 3 => omega
      | 4 => omega
      | 5 => omega
      | j + 6 => exact absurd (Eq.trans (b := (none : Option va_E)) (if_pos q) (Eq.refl (none : Option va_E))) h
    · exact absurd (if_neg q) h
  | 1 =>
    rw [ce1] at h
    by_cases q : i < 3 ∧ j = 0
    · exact Or.inr (Or.inl ⟨rfl, q⟩)
    · exact absurd (if_neg q) h
  | 2 =>
    rw [ce2] at h
    by_cases q : i < 3
    · match j with
      | 0 => omega
      | 1 => omega
      | 2 => omega
      | 3 => omega
      | 4 => omega
      | 5 => omega
      | 6 => omega
      | j + 7 => exact absurd (Eq.trans (b := (none : Option va_E)) (if_pos q) (Eq.refl (none : Option va_E))) h
    · exact absurd (if_neg q) h
  | 3 =>
    rw [ce3] at h
    exact absurd (if_neg (Nat.not_lt_zero i)) h
  | 4 =>
    rw [ce4] at h
    exact absurd (if_neg (fun z => Nat.not_lt_zero i z.1)) h
  | 5 =>
    rw [ce5] at h
    exact absurd (if_neg (fun z => Nat.not_lt_zero i z.1)) h
  | 6 =>
    rw [ce6] at h
    exact absurd (if_neg (fun z => Nat.not_lt_zero i z.1)) h
  | 7 =>
    rw [ce7] at h
    exact absurd (if_neg (fun z => Nat.not_lt_zero i z.1)) h
  | k + 8 =>
    rw [ce8] at h
    exact absurd (Eq.refl (none : Option va_E)) h
theorem Rc.init {y : Nat → ClassId} {f : fw_F} {A : Nat → Nat} (hinj : ∀ i j, i < 30 → j < 30 → A i = A j → i = j)
    (h0 : f (A 0) = some (.inr (8, [.ref (A 1), .ref (A 2), .ref (A 3), .ref (A 4), .ref (A 5), .int 0, .int 0, .int 0, .int 20000, .int 0])))
    (h1 : f (A 1) = some (.inl (y 3, 3, .inr (.inr (.inr (.inr (fun e => if e < 3 then some (A (6 + e)) else none)))))))
    (h2 : f (A 2) = some (.inl (y 4, 3, .inr (.inr (.inr (.inr (fun e => if e < 3 then some (A (9 + 7 * e + 0)) else none)))))))
    (h3 : f (A 3) = some (.inl (y 8, 8, .inr (.inr (.inr (.inr (fun _ => none)))))))
    (h4 : f (A 4) = some (.inl (y 2, 20, .inr (.inr (.inr (.inr (fun _ => none)))))))
    (h5 : f (A 5) = some (.inl (y 7, 40, .inr (.inr (.inr (.inr (fun _ => none)))))))
    (hp : ∀ i, i < 3 → f (A (6 + i)) = some (.inr (1, [.int 0, .int 0])))
    (r0 : ∀ i, i < 3 → f (A (9 + 7 * i + 0)) = some (.inr (2, [.ref (A (9 + 7 * i + 1)), .ref (A (9 + 7 * i + 4))])))
    (r1 : ∀ i, i < 3 → f (A (9 + 7 * i + 1)) = some (.inr (3, [.ref (A (9 + 7 * i + 2)), .ref (A (9 + 7 * i + 3))])))
    (r2 : ∀ i, i < 3 → f (A (9 + 7 * i + 2)) = some (.inl (y 0, 31, .inl (fillv 1000 31))))
    (r3 : ∀ i, i < 3 → f (A (9 + 7 * i + 3)) = some (.inl (y 1, 31, .inl (fun _ => 0))))
    (r4 : ∀ i, i < 3 → f (A (9 + 7 * i + 4)) = some (.inr (3, [.ref (A (9 + 7 * i + 5)), .ref (A (9 + 7 * i + 6))])))
    (r5 : ∀ i, i < 3 → f (A (9 + 7 * i + 5)) = some (.inl (y 0, 31, .inl (fillv 1500 31))))
    (r6 : ∀ i, i < 3 → f (A (9 + 7 * i + 6)) = some (.inl (y 1, 31, .inl (fun _ => 0)))) : Rc y 0 0 0 0 kap0 (al0 A) f := by
  have emp : ∀ g : Nat → Nat, (fun e => if e < 0 then some (g e) else none) = (fun _ => none : Nat → Option Nat) := fun g => funext fun e => if_neg (Nat.not_lt_zero e)
  refine ⟨fun k i j e he => ?_, fun k i j k' i' j' q1 q2 q3 => ?_⟩
  · rcases live0 (by rw [he]; exact fun z => nomatch z) with ⟨rfl, rfl, hj⟩ | ⟨rfl, hi, rfl⟩ | ⟨rfl, hi, hj⟩
    · rw [ce0] at he
      match j with
      | 0 => exact h0.trans ((if_pos rfl).symm.trans he)
      | 1 => exact h1.trans ((if_pos rfl).symm.trans he)
      | 2 => exact h2.trans ((if_pos rfl).symm.trans he)
      | 3 =>
        refine h3.trans (Eq.trans ?_ ((if_pos rfl).symm.trans he))
        exact congrArg (fun (t : Nat → Option Nat) => (some (.inl (y 8, 8, .inr (.inr (.inr (.inr t))))) : Option va_E)) (emp (fun e => al0 A 3 e 0)).symm
      | 4 =>
        refine h4.trans (Eq.trans ?_ ((if_pos rfl).symm.trans he))
        exact congrArg (fun (t : Nat → Option Nat) => (some (.inl (y 2, 20, .inr (.inr (.inr (.inr t))))) : Option va_E)) (emp (fun e => al0 A 6 e 0)).symm
      | 5 =>
        refine h5.trans (Eq.trans ?_ ((if_pos rfl).symm.trans he))
        exact congrArg (fun (t : Nat → Option Nat) => (some (.inl (y 7, 40, .inr (.inr (.inr (.inr t))))) : Option va_E)) (emp (fun e => al0 A 7 e 0)).symm
      | j + 6 => omega
    · rw [ce1] at he
      exact (hp i hi).trans ((if_pos ⟨hi, rfl⟩).symm.trans he)
    · rw [ce2] at he
      match j with
      | 0 => exact (r0 i hi).trans ((if_pos hi).symm.trans he)
      | 1 => exact (r1 i hi).trans ((if_pos hi).symm.trans he)
      | 2 => exact (r2 i hi).trans ((congrArg (fun (t : Nat → Int32) => (some (.inl (y 0, 31, .inl t)) : Option va_E)) kap0_e.symm).trans ((if_pos hi).symm.trans he))
      | 3 => exact (r3 i hi).trans ((if_pos hi).symm.trans he)
      | 4 => exact (r4 i hi).trans ((if_pos hi).symm.trans he)
      | 5 => exact (r5 i hi).trans ((congrArg (fun (t : Nat → Int32) => (some (.inl (y 0, 31, .inl t)) : Option va_E)) kap0_o.symm).trans ((if_pos hi).symm.trans he))
      | 6 => exact (r6 i hi).trans ((if_pos hi).symm.trans he)
      | j + 7 => omega
  · rcases live0 q1 with ⟨rfl, rfl, hj⟩ | ⟨rfl, hi, rfl⟩ | ⟨rfl, hi, hj⟩ <;> rcases live0 q2 with ⟨rfl, rfl, hj'⟩ | ⟨rfl, hi', rfl⟩ | ⟨rfl, hi', hj'⟩
    · have := hinj j j' (by omega) (by omega) q3
      omega
    · have := hinj j (6 + i') (by omega) (by omega) q3
      omega
    · have := hinj j (9 + 7 * i' + j') (by omega) (by omega) q3
      omega
    · have := hinj (6 + i) j' (by omega) (by omega) q3
      omega
    · have := hinj (6 + i) (6 + i') (by omega) (by omega) q3
      omega
    · have := hinj (6 + i) (9 + 7 * i' + j') (by omega) (by omega) q3
      omega
    · have := hinj (9 + 7 * i + j) j' (by omega) (by omega) q3
      omega
    · have := hinj (9 + 7 * i + j) (6 + i') (by omega) (by omega) q3
      omega
    · have := hinj (9 + 7 * i + j) (9 + 7 * i' + j') (by omega) (by omega) q3
      omega
theorem row3 {g : Nat → Nat} {a b c : Nat} (h0 : g 0 = a) (h1 : g 1 = b) (h2 : g 2 = c) : va_up (va_up (va_up (fun _ => none) 0 (some a)) 1 (some b)) 2 (some c) = (fun e => if e < 3 then some (g e) else none) := by
  subst h0 h1 h2
  funext e
  unfold va_up
  match e with
  | 0 => rfl
  | 1 => rfl
  | 2 => rfl
  | e + 3 =>
    rw [if_neg (by omega), if_neg (by omega), if_neg (by omega), if_neg (by omega)]
theorem all3 {P : Nat → Prop} (h0 : P 0) (h1 : P 1) (h2 : P 2) : ∀ i, i < 3 → P i := by
  intro i hi
  match i with
  | 0 => exact h0
  | 1 => exact h1
  | 2 => exact h2
  | i + 3 => omega
theorem Own.one {f : fw_F} {a : Nat} {e : va_E} (h : f a = some e) : Own f [(a, e)] := by
  have key : ∀ {i b : Nat} {x : va_E}, [(a, e)][i]? = some (b, x) → i = 0 ∧ b = a ∧ x = e := by
    intro i b x hi
    match i with
    | 0 => cases hi; exact ⟨rfl, rfl, rfl⟩
    | i + 1 => exact nomatch hi
  refine ⟨fun i j b e1 e2 h1 h2 => (key h1).1.trans (key h2).1.symm, fun i b x h1 => ?_⟩
  obtain ⟨-, rfl, rfl⟩ := key h1
  exact h
theorem Own.at {L : List (Nat × va_E)} {M : List Nat} {B : Nat → Nat} (e : B = fun n => M.getD n 0) {i n : Nat} (hi : i < n) (hL : L.length = n) (hM : L.map Prod.fst = M) : ∃ x, L[i]? = some (B i, x) := by
  subst e hL hM
  refine ⟨(L[i]'hi).2, ?_⟩
  rw [List.getElem?_eq_getElem hi]
  show some (L[i]'hi) = some (((L.map Prod.fst)[i]?).getD 0, (L[i]'hi).2)
  rw [List.getElem?_map, List.getElem?_eq_getElem hi]
  rfl
theorem iX8_init_1 : ∀ w ∈ wsX10, w ∈ wsX8_init := by decide +kernel
theorem iX8_init_2 : ∀ w ∈ wsX20, w ∈ wsX8_init := by decide +kernel
theorem iX8_init_8 : ∀ w ∈ wsX80, w ∈ wsX8_init := by decide +kernel
set_option maxHeartbeats 4000000 in
set_option maxRecDepth 100000 in
/-- CrewPay() -/
theorem c_X8_init (l : Launch) (D : va_G) (A : Nat → Prop) (y : Nat → ClassId) (sa : Nat → Nat) (f : fw_F) (h0 : Nat) (hf : f h0 = some (.inr (8, [.null, .null, .null, .null, .null, .int 0, .int 0, .int 0, .int 0, .int 0]))) : Met l yX8_init wsX8_init ({ frames := 3, cells := 29, slots := 470, locals := 64 } : Room) (cPc D A y sa f [.ref h0]) (cQv D A (fun f1 => ∃ α, α 0 0 0 = h0 ∧ Rc y 0 0 0 0 kap0 α f1)) 29 470 A := by
  refine fw_met (by decide) rfl [.ref h0] (Nat.le_of_ble_eq_true rfl) ?_
  intro p e s m args below meth c ls I hin hE hw hl
  obtain ⟨hx, hb, hr, hts, hown, hlocks, hml⟩ := I
  have hown : s.vm.findClass RX8 = some m.cls := hown
  have hl : lv_has ls 2 [(0, .ref h0)] := hl
  have hO : Own f [(h0, .inr (8, [.null, .null, .null, .null, .null, .int 0, .int 0, .int 0, .int 0, .int 0]))] := Own.one hf
  refine lv_aload_n hx hb dX8_init_0 rfl (lv_at hl 0 rfl) ?_
  refine W.objInit hx hb hown (hts (.methodLink RX8 1 objectInit) (by decide +kernel)) (hts (.instanceMethod objectInit) (by decide +kernel)) (hts (.code objectInit ⟨#[0xb1]⟩ 1 none) (by decide +kernel)) rfl (by rw [hml]; exact hl.1) rfl dX8_init_1 (Nat.le_of_ble_eq_true rfl) (Nat.le_of_ble_eq_true rfl) ?_
  refine W.eq (g2 := F0 m 4 ls []) rfl ?_
  refine lv_aload_n hx hb dX8_init_4 rfl (lv_at hl 0 rfl) ?_
  refine lv_iconst (v := 3) hx hb dX8_init_5 (by decide) ?_
  refine fw_newQ hx hb hts hown hE.1.1 hw hE.2.1 (C := RX1) (by decide +kernel) (hE.1.2.1 RX1 (by decide +kernel)) 3 rfl (N := 3) (by decide) rfl (by decide) (Nat.le_of_ble_eq_true rfl) (Nat.le_of_ble_eq_true rfl) dX8_init_6 (fun q1 H hnq1 hw => ?_)
  obtain ⟨f2, ef2⟩ : ∃ z, z = fw_up f q1 (.inl (y 3, 3, .inr (.inr (.inr (.inr (fun _ => none)))))) := ⟨_, rfl⟩
  have hw : fw_S D A s.heap f2 H [] := by rw [ef2]; exact hw
  have hO : Own f2 [(h0, .inr (8, [.null, .null, .null, .null, .null, .int 0, .int 0, .int 0, .int 0, .int 0])), (q1, .inl (y 3, 3, .inr (.inr (.inr (.inr (fun _ => none))))))] := by rw [ef2]; exact hO.new hnq1
  refine fw_putF hx hb hts hown hE.1.1 hw (ci := 8) (fs := [.null, .null, .null, .null, .null, .int 0, .int 0, .int 0, .int 0, .int 0]) (v := .ref q1) (hO.get (i := 0) rfl) iX8_init_8 tyX8 tyX8_ok nmX8 rfl 0 (by decide) rfl (hin rfl) rfl rfl rfl (Nat.le_of_ble_eq_true rfl) (by decide +kernel) dX8_init_9 (fun H locs hw => ?_)
  obtain ⟨f3, ef3⟩ : ∃ z, z = fw_up f2 h0 (.inr (8, [.ref q1, .null, .null, .null, .null, .int 0, .int 0, .int 0, .int 0, .int 0])) := ⟨_, rfl⟩
  have hw : fw_S D A s.heap f3 H locs := by rw [ef3]; exact hw
  have hO : Own f3 [(h0, .inr (8, [.ref q1, .null, .null, .null, .null, .int 0, .int 0, .int 0, .int 0, .int 0])), (q1, .inl (y 3, 3, .inr (.inr (.inr (.inr (fun _ => none))))))] := by rw [ef3]; exact hO.set (i := 0) rfl
  refine lv_aload_n hx hb dX8_init_12 rfl (lv_at hl 0 rfl) ?_
  refine lv_iconst (v := 3) hx hb dX8_init_13 (by decide) ?_
  refine fw_newQ hx hb hts hown hE.1.1 hw hE.2.1 (C := RX2) (by decide +kernel) (hE.1.2.1 RX2 (by decide +kernel)) 4 rfl (N := 3) (by decide) rfl (by decide) (Nat.le_of_ble_eq_true rfl) (Nat.le_of_ble_eq_true rfl) dX8_init_14 (fun q4 H hnq4 hw => ?_)
  obtain ⟨f5, ef5⟩ : ∃ z, z = fw_up f3 q4 (.inl (y 4, 3, .inr (.inr (.inr (.inr (fun _ => none)))))) := ⟨_, rfl⟩
  have hw : fw_S D A s.heap f5 H locs := by rw [ef5]; exact hw
  have hO : Own f5 [(h0, .inr (8, [.ref q1, .null, .null, .null, .null, .int 0, .int 0, .int 0, .int 0, .int 0])), (q1, .inl (y 3, 3, .inr (.inr (.inr (.inr (fun _ => none)))))), (q4, .inl (y 4, 3, .inr (.inr (.inr (.inr (fun _ => none))))))] := by rw [ef5]; exact hO.new hnq4
  refine fw_putF hx hb hts hown hE.1.1 hw (ci := 8) (fs := [.ref q1, .null, .null, .null, .null, .int 0, .int 0, .int 0, .int 0, .int 0]) (v := .ref q4) (hO.get (i := 0) rfl) iX8_init_8 tyX8 tyX8_ok nmX8 rfl 1 (by decide) rfl (hin rfl) rfl rfl rfl (Nat.le_of_ble_eq_true rfl) (by decide +kernel) dX8_init_17 (fun H locs hw => ?_)
  obtain ⟨f6, ef6⟩ : ∃ z, z = fw_up f5 h0 (.inr (8, [.ref q1, .ref q4, .null, .null, .null, .int 0, .int 0, .int 0, .int 0, .int 0])) := ⟨_, rfl⟩
  have hw : fw_S D A s.heap f6 H locs := by rw [ef6]; exact hw
  have hO : Own f6 [(h0, .inr (8, [.ref q1, .ref q4, .null, .null, .null, .int 0, .int 0, .int 0, .int 0, .int 0])), (q1, .inl (y 3, 3, .inr (.inr (.inr (.inr (fun _ => none)))))), (q4, .inl (y 4, 3, .inr (.inr (.inr (.inr (fun _ => none))))))] := by rw [ef6]; exact hO.set (i := 0) rfl
  refine lv_aload_n hx hb dX8_init_20 rfl (lv_at hl 0 rfl) ?_
  refine lv_bipush (v := 8) hx hb dX8_init_21 (by decide) ?_
  refine fw_newQ hx hb hts hown hE.1.1 hw hE.2.1 (C := RX7) (by decide +kernel) (hE.1.2.1 RX7 (by decide +kernel)) 8 rfl (N := 8) (by decide) rfl (by decide) (Nat.le_of_ble_eq_true rfl) (Nat.le_of_ble_eq_true rfl) dX8_init_23 (fun q7 H hnq7 hw => ?_)
  obtain ⟨f8, ef8⟩ : ∃ z, z = fw_up f6 q7 (.inl (y 8, 8, .inr (.inr (.inr (.inr (fun _ => none)))))) := ⟨_, rfl⟩
  have hw : fw_S D A s.heap f8 H locs := by rw [ef8]; exact hw
  have hO : Own f8 [(h0, .inr (8, [.ref q1, .ref q4, .null, .null, .null, .int 0, .int 0, .int 0, .int 0, .int 0])), (q1, .inl (y 3, 3, .inr (.inr (.inr (.inr (fun _ => none)))))), (q4, .inl (y 4, 3, .inr (.inr (.inr (.inr (fun _ => none)))))), (q7, .inl (y 8, 8, .inr (.inr (.inr (.inr (fun _ => none))))))] := by rw [ef8]; exact hO.new hnq7
  refine fw_putF hx hb hts hown hE.1.1 hw (ci := 8) (fs := [.ref q1, .ref q4, .null, .null, .null, .int 0, .int 0, .int 0, .int 0, .int 0]) (v := .ref q7) (hO.get (i := 0) rfl) iX8_init_8 tyX8 tyX8_ok nmX8 rfl 2 (by decide) rfl (hin rfl) rfl rfl rfl (Nat.le_of_ble_eq_true rfl) (by decide +kernel) dX8_init_26 (fun H locs hw => ?_)
  obtain ⟨f9, ef9⟩ : ∃ z, z = fw_up f8 h0 (.inr (8, [.ref q1, .ref q4, .ref q7, .null, .null, .int 0, .int 0, .int 0, .int 0, .int 0])) := ⟨_, rfl⟩
  have hw : fw_S D A s.heap f9 H locs := by rw [ef9]; exact hw
  have hO : Own f9 [(h0, .inr (8, [.ref q1, .ref q4, .ref q7, .null, .null, .int 0, .int 0, .int 0, .int 0, .int 0])), (q1, .inl (y 3, 3, .inr (.inr (.inr (.inr (fun _ => none)))))), (q4, .inl (y 4, 3, .inr (.inr (.inr (.inr (fun _ => none)))))), (q7, .inl (y 8, 8, .inr (.inr (.inr (.inr (fun _ => none))))))] := by rw [ef9]; exact hO.set (i := 0) rfl
  refine lv_aload_n hx hb dX8_init_29 rfl (lv_at hl 0 rfl) ?_
  refine lv_bipush (v := 20) hx hb dX8_init_30 (by decide) ?_
  refine fw_newQ hx hb hts hown hE.1.1 hw hE.2.1 (C := RX0) (by decide +kernel) (hE.1.2.1 RX0 (by decide +kernel)) 2 rfl (N := 20) (by decide) rfl (by decide) (Nat.le_of_ble_eq_true rfl) (Nat.le_of_ble_eq_true rfl) dX8_init_32 (fun q10 H hnq10 hw => ?_)
  obtain ⟨f11, ef11⟩ : ∃ z, z = fw_up f9 q10 (.inl (y 2, 20, .inr (.inr (.inr (.inr (fun _ => none)))))) := ⟨_, rfl⟩
  have hw : fw_S D A s.heap f11 H locs := by rw [ef11]; exact hw
  have hO : Own f11 [(h0, .inr (8, [.ref q1, .ref q4, .ref q7, .null, .null, .int 0, .int 0, .int 0, .int 0, .int 0])), (q1, .inl (y 3, 3, .inr (.inr (.inr (.inr (fun _ => none)))))), (q4, .inl (y 4, 3, .inr (.inr (.inr (.inr (fun _ => none)))))), (q7, .inl (y 8, 8, .inr (.inr (.inr (.inr (fun _ => none)))))), (q10, .inl (y 2, 20, .inr (.inr (.inr (.inr (fun _ => none))))))] := by rw [ef11]; exact hO.new hnq10
  refine fw_putF hx hb hts hown hE.1.1 hw (ci := 8) (fs := [.ref q1, .ref q4, .ref q7, .null, .null, .int 0, .int 0, .int 0, .int 0, .int 0]) (v := .ref q10) (hO.get (i := 0) rfl) iX8_init_8 tyX8 tyX8_ok nmX8 rfl 3 (by decide) rfl (hin rfl) rfl rfl rfl (Nat.le_of_ble_eq_true rfl) (by decide +kernel) dX8_init_35 (fun H locs hw => ?_)
  obtain ⟨f12, ef12⟩ : ∃ z, z = fw_up f11 h0 (.inr (8, [.ref q1, .ref q4, .ref q7, .ref q10, .null, .int 0, .int 0, .int 0, .int 0, .int 0])) := ⟨_, rfl⟩
  have hw : fw_S D A s.heap f12 H locs := by rw [ef12]; exact hw
  have hO : Own f12 [(h0, .inr (8, [.ref q1, .ref q4, .ref q7, .ref q10, .null, .int 0, .int 0, .int 0, .int 0, .int 0])), (q1, .inl (y 3, 3, .inr (.inr (.inr (.inr (fun _ => none)))))), (q4, .inl (y 4, 3, .inr (.inr (.inr (.inr (fun _ => none)))))), (q7, .inl (y 8, 8, .inr (.inr (.inr (.inr (fun _ => none)))))), (q10, .inl (y 2, 20, .inr (.inr (.inr (.inr (fun _ => none))))))] := by rw [ef12]; exact hO.set (i := 0) rfl
  refine lv_aload_n hx hb dX8_init_38 rfl (lv_at hl 0 rfl) ?_
  refine lv_bipush (v := 40) hx hb dX8_init_39 (by decide) ?_
  refine fw_newQ hx hb hts hown hE.1.1 hw hE.2.1 (C := RX6) (by decide +kernel) (hE.1.2.1 RX6 (by decide +kernel)) 7 rfl (N := 40) (by decide) rfl (by decide) (Nat.le_of_ble_eq_true rfl) (Nat.le_of_ble_eq_true rfl) dX8_init_41 (fun q13 H hnq13 hw => ?_)
  obtain ⟨f14, ef14⟩ : ∃ z, z = fw_up f12 q13 (.inl (y 7, 40, .inr (.inr (.inr (.inr (fun _ => none)))))) := ⟨_, rfl⟩
  have hw : fw_S D A s.heap f14 H locs := by rw [ef14]; exact hw
  have hO : Own f14 [(h0, .inr (8, [.ref q1, .ref q4, .ref q7, .ref q10, .null, .int 0, .int 0, .int 0, .int 0, .int 0])), (q1, .inl (y 3, 3, .inr (.inr (.inr (.inr (fun _ => none)))))), (q4, .inl (y 4, 3, .inr (.inr (.inr (.inr (fun _ => none)))))), (q7, .inl (y 8, 8, .inr (.inr (.inr (.inr (fun _ => none)))))), (q10, .inl (y 2, 20, .inr (.inr (.inr (.inr (fun _ => none)))))), (q13, .inl (y 7, 40, .inr (.inr (.inr (.inr (fun _ => none))))))] := by rw [ef14]; exact hO.new hnq13
  refine fw_putF hx hb hts hown hE.1.1 hw (ci := 8) (fs := [.ref q1, .ref q4, .ref q7, .ref q10, .null, .int 0, .int 0, .int 0, .int 0, .int 0]) (v := .ref q13) (hO.get (i := 0) rfl) iX8_init_8 tyX8 tyX8_ok nmX8 rfl 4 (by decide) rfl (hin rfl) rfl rfl rfl (Nat.le_of_ble_eq_true rfl) (by decide +kernel) dX8_init_44 (fun H locs hw => ?_)
  obtain ⟨f15, ef15⟩ : ∃ z, z = fw_up f14 h0 (.inr (8, [.ref q1, .ref q4, .ref q7, .ref q10, .ref q13, .int 0, .int 0, .int 0, .int 0, .int 0])) := ⟨_, rfl⟩
  have hw : fw_S D A s.heap f15 H locs := by rw [ef15]; exact hw
  have hO : Own f15 [(h0, .inr (8, [.ref q1, .ref q4, .ref q7, .ref q10, .ref q13, .int 0, .int 0, .int 0, .int 0, .int 0])), (q1, .inl (y 3, 3, .inr (.inr (.inr (.inr (fun _ => none)))))), (q4, .inl (y 4, 3, .inr (.inr (.inr (.inr (fun _ => none)))))), (q7, .inl (y 8, 8, .inr (.inr (.inr (.inr (fun _ => none)))))), (q10, .inl (y 2, 20, .inr (.inr (.inr (.inr (fun _ => none)))))), (q13, .inl (y 7, 40, .inr (.inr (.inr (.inr (fun _ => none))))))] := by rw [ef15]; exact hO.set (i := 0) rfl
  refine lv_aload_n hx hb dX8_init_47 rfl (lv_at hl 0 rfl) ?_
  refine lv_iconst (v := 0) hx hb dX8_init_48 (by decide) ?_
  refine fw_put hx hb hts hown hE.1.1 hw (ci := 8) (fs := [.ref q1, .ref q4, .ref q7, .ref q10, .ref q13, .int 0, .int 0, .int 0, .int 0, .int 0]) (v := .int 0) (hO.get (i := 0) rfl) iX8_init_8 tyX8 tyX8_ok nmX8 rfl 5 (by decide) rfl rfl rfl (Nat.le_of_ble_eq_true rfl) (by decide +kernel) dX8_init_49 (fun H locs hw => ?_)
  obtain ⟨f16, ef16⟩ : ∃ z, z = fw_up f15 h0 (.inr (8, [.ref q1, .ref q4, .ref q7, .ref q10, .ref q13, .int 0, .int 0, .int 0, .int 0, .int 0])) := ⟨_, rfl⟩
  have hw : fw_S D A s.heap f16 H locs := by rw [ef16]; exact hw
  have hO : Own f16 [(h0, .inr (8, [.ref q1, .ref q4, .ref q7, .ref q10, .ref q13, .int 0, .int 0, .int 0, .int 0, .int 0])), (q1, .inl (y 3, 3, .inr (.inr (.inr (.inr (fun _ => none)))))), (q4, .inl (y 4, 3, .inr (.inr (.inr (.inr (fun _ => none)))))), (q7, .inl (y 8, 8, .inr (.inr (.inr (.inr (fun _ => none)))))), (q10, .inl (y 2, 20, .inr (.inr (.inr (.inr (fun _ => none)))))), (q13, .inl (y 7, 40, .inr (.inr (.inr (.inr (fun _ => none))))))] := by rw [ef16]; exact hO.set (i := 0) rfl
  refine lv_aload_n hx hb dX8_init_52 rfl (lv_at hl 0 rfl) ?_
  refine lv_iconst (v := 0) hx hb dX8_init_53 (by decide) ?_
  refine fw_put hx hb hts hown hE.1.1 hw (ci := 8) (fs := [.ref q1, .ref q4, .ref q7, .ref q10, .ref q13, .int 0, .int 0, .int 0, .int 0, .int 0]) (v := .int 0) (hO.get (i := 0) rfl) iX8_init_8 tyX8 tyX8_ok nmX8 rfl 6 (by decide) rfl rfl rfl (Nat.le_of_ble_eq_true rfl) (by decide +kernel) dX8_init_54 (fun H locs hw => ?_)
  obtain ⟨f17, ef17⟩ : ∃ z, z = fw_up f16 h0 (.inr (8, [.ref q1, .ref q4, .ref q7, .ref q10, .ref q13, .int 0, .int 0, .int 0, .int 0, .int 0])) := ⟨_, rfl⟩
  have hw : fw_S D A s.heap f17 H locs := by rw [ef17]; exact hw
  have hO : Own f17 [(h0, .inr (8, [.ref q1, .ref q4, .ref q7, .ref q10, .ref q13, .int 0, .int 0, .int 0, .int 0, .int 0])), (q1, .inl (y 3, 3, .inr (.inr (.inr (.inr (fun _ => none)))))), (q4, .inl (y 4, 3, .inr (.inr (.inr (.inr (fun _ => none)))))), (q7, .inl (y 8, 8, .inr (.inr (.inr (.inr (fun _ => none)))))), (q10, .inl (y 2, 20, .inr (.inr (.inr (.inr (fun _ => none)))))), (q13, .inl (y 7, 40, .inr (.inr (.inr (.inr (fun _ => none))))))] := by rw [ef17]; exact hO.set (i := 0) rfl
  refine lv_aload_n hx hb dX8_init_57 rfl (lv_at hl 0 rfl) ?_
  refine lv_iconst (v := 0) hx hb dX8_init_58 (by decide) ?_
  refine fw_put hx hb hts hown hE.1.1 hw (ci := 8) (fs := [.ref q1, .ref q4, .ref q7, .ref q10, .ref q13, .int 0, .int 0, .int 0, .int 0, .int 0]) (v := .int 0) (hO.get (i := 0) rfl) iX8_init_8 tyX8 tyX8_ok nmX8 rfl 7 (by decide) rfl rfl rfl (Nat.le_of_ble_eq_true rfl) (by decide +kernel) dX8_init_59 (fun H locs hw => ?_)
  obtain ⟨f18, ef18⟩ : ∃ z, z = fw_up f17 h0 (.inr (8, [.ref q1, .ref q4, .ref q7, .ref q10, .ref q13, .int 0, .int 0, .int 0, .int 0, .int 0])) := ⟨_, rfl⟩
  have hw : fw_S D A s.heap f18 H locs := by rw [ef18]; exact hw
  have hO : Own f18 [(h0, .inr (8, [.ref q1, .ref q4, .ref q7, .ref q10, .ref q13, .int 0, .int 0, .int 0, .int 0, .int 0])), (q1, .inl (y 3, 3, .inr (.inr (.inr (.inr (fun _ => none)))))), (q4, .inl (y 4, 3, .inr (.inr (.inr (.inr (fun _ => none)))))), (q7, .inl (y 8, 8, .inr (.inr (.inr (.inr (fun _ => none)))))), (q10, .inl (y 2, 20, .inr (.inr (.inr (.inr (fun _ => none)))))), (q13, .inl (y 7, 40, .inr (.inr (.inr (.inr (fun _ => none))))))] := by rw [ef18]; exact hO.set (i := 0) rfl
  refine lv_aload_n hx hb dX8_init_62 rfl (lv_at hl 0 rfl) ?_
  refine lv_sipush (v := 20000) hx hb dX8_init_63 (by decide) ?_
  refine fw_put hx hb hts hown hE.1.1 hw (ci := 8) (fs := [.ref q1, .ref q4, .ref q7, .ref q10, .ref q13, .int 0, .int 0, .int 0, .int 0, .int 0]) (v := .int 20000) (hO.get (i := 0) rfl) iX8_init_8 tyX8 tyX8_ok nmX8 rfl 8 (by decide) rfl rfl rfl (Nat.le_of_ble_eq_true rfl) (by decide +kernel) dX8_init_66 (fun H locs hw => ?_)
  obtain ⟨f19, ef19⟩ : ∃ z, z = fw_up f18 h0 (.inr (8, [.ref q1, .ref q4, .ref q7, .ref q10, .ref q13, .int 0, .int 0, .int 0, .int 20000, .int 0])) := ⟨_, rfl⟩
  have hw : fw_S D A s.heap f19 H locs := by rw [ef19]; exact hw
  have hO : Own f19 [(h0, .inr (8, [.ref q1, .ref q4, .ref q7, .ref q10, .ref q13, .int 0, .int 0, .int 0, .int 20000, .int 0])), (q1, .inl (y 3, 3, .inr (.inr (.inr (.inr (fun _ => none)))))), (q4, .inl (y 4, 3, .inr (.inr (.inr (.inr (fun _ => none)))))), (q7, .inl (y 8, 8, .inr (.inr (.inr (.inr (fun _ => none)))))), (q10, .inl (y 2, 20, .inr (.inr (.inr (.inr (fun _ => none)))))), (q13, .inl (y 7, 40, .inr (.inr (.inr (.inr (fun _ => none))))))] := by rw [ef19]; exact hO.set (i := 0) rfl
  refine lv_aload_n hx hb dX8_init_69 rfl (lv_at hl 0 rfl) ?_
  refine lv_iconst (v := 0) hx hb dX8_init_70 (by decide) ?_
  refine fw_put hx hb hts hown hE.1.1 hw (ci := 8) (fs := [.ref q1, .ref q4, .ref q7, .ref q10, .ref q13, .int 0, .int 0, .int 0, .int 20000, .int 0]) (v := .int 0) (hO.get (i := 0) rfl) iX8_init_8 tyX8 tyX8_ok nmX8 rfl 9 (by decide) rfl rfl rfl (Nat.le_of_ble_eq_true rfl) (by decide +kernel) dX8_init_71 (fun H locs hw => ?_)
  obtain ⟨f20, ef20⟩ : ∃ z, z = fw_up f19 h0 (.inr (8, [.ref q1, .ref q4, .ref q7, .ref q10, .ref q13, .int 0, .int 0, .int 0, .int 20000, .int 0])) := ⟨_, rfl⟩
  have hw : fw_S D A s.heap f20 H locs := by rw [ef20]; exact hw
  have hO : Own f20 [(h0, .inr (8, [.ref q1, .ref q4, .ref q7, .ref q10, .ref q13, .int 0, .int 0, .int 0, .int 20000, .int 0])), (q1, .inl (y 3, 3, .inr (.inr (.inr (.inr (fun _ => none)))))), (q4, .inl (y 4, 3, .inr (.inr (.inr (.inr (fun _ => none)))))), (q7, .inl (y 8, 8, .inr (.inr (.inr (.inr (fun _ => none)))))), (q10, .inl (y 2, 20, .inr (.inr (.inr (.inr (fun _ => none)))))), (q13, .inl (y 7, 40, .inr (.inr (.inr (.inr (fun _ => none))))))] := by rw [ef20]; exact hO.set (i := 0) rfl
  refine lv_iconst (v := 0) hx hb dX8_init_74 (by decide) ?_
  refine lv_istore_n (lv' := [(1, .int 0), (0, .ref h0)]) hx hb dX8_init_75 rfl hl (by decide) rfl (fun ls hl => ?_)
  refine lv_iload_n hx hb dX8_init_76 rfl (lv_at hl 0 rfl) ?_
  refine lv_aload_n hx hb dX8_init_77 rfl (lv_at hl 1 rfl) ?_
  refine fw_get hx hb hts hown hE.1.1 hw (ci := 8) (fs := [.ref q1, .ref q4, .ref q7, .ref q10, .ref q13, .int 0, .int 0, .int 0, .int 20000, .int 0]) (v := .ref q1) (hO.get (i := 0) rfl) iX8_init_8 rfl 0 (by decide) rfl (by decide +kernel) dX8_init_78 ?_
  refine fw_alen hx hb hE.1.1 hw (hO.get (i := 1) rfl) 3 rfl (v := 3) rfl dX8_init_81 ?_
  refine lv_icmp_ge (tgt := 104) hx hb dX8_init_82 (by decide) (fun c_21 => absurd c_21 (by decide +kernel)) (fun _ => ?_)
  refine lv_aload_n hx hb dX8_init_85 rfl (lv_at hl 1 rfl) ?_
  refine fw_get hx hb hts hown hE.1.1 hw (ci := 8) (fs := [.ref q1, .ref q4, .ref q7, .ref q10, .ref q13, .int 0, .int 0, .int 0, .int 20000, .int 0]) (v := .ref q1) (hO.get (i := 0) rfl) iX8_init_8 rfl 0 (by decide) rfl (by decide +kernel) dX8_init_86 ?_
  refine lv_iload_n hx hb dX8_init_89 rfl (lv_at hl 0 rfl) ?_
  refine fw_new hx hb hts hown hE.1.1 hw hE.2.1 (ci := 1) (C := RX1) (T := TX1) (N := 2) (fs := [.int 0, .int 0]) iX8_init_1 tyX1 tyX1_ok (by decide +kernel) (by decide +kernel) (by decide +kernel) rfl (fun j hj => by rcases (show j = 0 ∨ j = 1 by omega) with rfl | rfl <;> rfl) (Nat.le_of_ble_eq_true rfl) (Nat.le_of_ble_eq_true rfl) dX8_init_90 (fun q22 H hnq22 hw => ?_)
  obtain ⟨f23, ef23⟩ : ∃ z, z = fw_up f20 q22 (.inr (1, [.int 0, .int 0])) := ⟨_, rfl⟩
  have hw : fw_S D A s.heap f23 H locs := by rw [ef23]; exact hw
  have hO : Own f23 [(h0, .inr (8, [.ref q1, .ref q4, .ref q7, .ref q10, .ref q13, .int 0, .int 0, .int 0, .int 20000, .int 0])), (q1, .inl (y 3, 3, .inr (.inr (.inr (.inr (fun _ => none)))))), (q4, .inl (y 4, 3, .inr (.inr (.inr (.inr (fun _ => none)))))), (q7, .inl (y 8, 8, .inr (.inr (.inr (.inr (fun _ => none)))))), (q10, .inl (y 2, 20, .inr (.inr (.inr (.inr (fun _ => none)))))), (q13, .inl (y 7, 40, .inr (.inr (.inr (.inr (fun _ => none)))))), (q22, .inr (1, [.int 0, .int 0]))] := by rw [ef23]; exact hO.new hnq22
  refine lv_dup hx hb dX8_init_93 rfl ?_
  refine fw_callINv hx hb hml hown hts hE hw [] [.ref q22, .int 0, .ref q1] (c_X1_init l D A y sa f23 q22 0 0 (hO.get (i := 6) rfl)) ⟨va_cnB (host := RX8) 0 hts gX8_init_X1_init_n55 rfl rfl rfl (hE.1.2.2.2.1 (55, yX1_init) (by decide +kernel)) (hts (.initialized RX1) (by decide +kernel)) (by decide +kernel) ⟨Nat.le_of_ble_eq_true rfl, Nat.le_of_ble_eq_true rfl⟩, rfl, hts (.instanceMethod yX1_init) (by decide +kernel)⟩ rfl hl.1 rfl (Nat.le_of_ble_eq_true rfl) dX8_init_94 ⟨Nat.le_of_ble_eq_true rfl, Nat.le_of_ble_eq_true rfl⟩ (fun f25 H locs hp26 hw => ?_)
  have hO : Own f25 [(h0, .inr (8, [.ref q1, .ref q4, .ref q7, .ref q10, .ref q13, .int 0, .int 0, .int 0, .int 20000, .int 0])), (q1, .inl (y 3, 3, .inr (.inr (.inr (.inr (fun _ => none)))))), (q4, .inl (y 4, 3, .inr (.inr (.inr (.inr (fun _ => none)))))), (q7, .inl (y 8, 8, .inr (.inr (.inr (.inr (fun _ => none)))))), (q10, .inl (y 2, 20, .inr (.inr (.inr (.inr (fun _ => none)))))), (q13, .inl (y 7, 40, .inr (.inr (.inr (.inr (fun _ => none)))))), (q22, .inr (1, [.int 0, .int 0]))] := by rw [hp26]; exact hO.set (i := 6) rfl
  refine fw_aast (r := (RX1, TX1, 2)) hx hb hE.1.1 hw (g := (fun _ => none)) (hO.get (i := 1) rfl) 3 rfl (hO.get (i := 6) rfl) rfl (by have z : vp_in (nI 0) 3 := vp_in_nI (by decide) (by decide); exact z) dX8_init_97 (fun H locs hw => ?_)
  obtain ⟨f27, ef27⟩ : ∃ z, z = fw_up f25 q1 (.inl (y 3, 3, .inr (.inr (.inr (.inr (va_up (fun _ => none) 0 (some q22))))))) := ⟨_, rfl⟩
  have hw : fw_S D A s.heap f27 H locs := by rw [ef27]; exact hw
  have hO : Own f27 [(h0, .inr (8, [.ref q1, .ref q4, .ref q7, .ref q10, .ref q13, .int 0, .int 0, .int 0, .int 20000, .int 0])), (q1, .inl (y 3, 3, .inr (.inr (.inr (.inr (va_up (fun _ => none) 0 (some q22))))))), (q4, .inl (y 4, 3, .inr (.inr (.inr (.inr (fun _ => none)))))), (q7, .inl (y 8, 8, .inr (.inr (.inr (.inr (fun _ => none)))))), (q10, .inl (y 2, 20, .inr (.inr (.inr (.inr (fun _ => none)))))), (q13, .inl (y 7, 40, .inr (.inr (.inr (.inr (fun _ => none)))))), (q22, .inr (1, [.int 0, .int 0]))] := by rw [ef27]; exact hO.set (i := 1) rfl
  refine lv_iinc (v := 1) (lv' := [(1, .int 1), (0, .ref h0)]) hx hb dX8_init_98 hl (k := 0) rfl (by decide +kernel) (by decide) rfl (fun ls hl => ?_)
  refine lv_goto (tgt := 76) hx hb dX8_init_101 (by decide) ?_
  refine lv_iload_n hx hb dX8_init_76 rfl (lv_at hl 0 rfl) ?_
  refine lv_aload_n hx hb dX8_init_77 rfl (lv_at hl 1 rfl) ?_
  refine fw_get hx hb hts hown hE.1.1 hw (ci := 8) (fs := [.ref q1, .ref q4, .ref q7, .ref q10, .ref q13, .int 0, .int 0, .int 0, .int 20000, .int 0]) (v := .ref q1) (hO.get (i := 0) rfl) iX8_init_8 rfl 0 (by decide) rfl (by decide +kernel) dX8_init_78 ?_
  refine fw_alen hx hb hE.1.1 hw (hO.get (i := 1) rfl) 3 rfl (v := 3) rfl dX8_init_81 ?_
  refine lv_icmp_ge (tgt := 104) hx hb dX8_init_82 (by decide) (fun c_28 => absurd c_28 (by decide +kernel)) (fun _ => ?_)
  refine lv_aload_n hx hb dX8_init_85 rfl (lv_at hl 1 rfl) ?_
  refine fw_get hx hb hts hown hE.1.1 hw (ci := 8) (fs := [.ref q1, .ref q4, .ref q7, .ref q10, .ref q13, .int 0, .int 0, .int 0, .int 20000, .int 0]) (v := .ref q1) (hO.get (i := 0) rfl) iX8_init_8 rfl 0 (by decide) rfl (by decide +kernel) dX8_init_86 ?_
  refine lv_iload_n hx hb dX8_init_89 rfl (lv_at hl 0 rfl) ?_
  refine fw_new hx hb hts hown hE.1.1 hw hE.2.1 (ci := 1) (C := RX1) (T := TX1) (N := 2) (fs := [.int 0, .int 0]) iX8_init_1 tyX1 tyX1_ok (by decide +kernel) (by decide +kernel) (by decide +kernel) rfl (fun j hj => by rcases (show j = 0 ∨ j = 1 by omega) with rfl | rfl <;> rfl) (Nat.le_of_ble_eq_true rfl) (Nat.le_of_ble_eq_true rfl) dX8_init_90 (fun q29 H hnq29 hw => ?_)
  obtain ⟨f30, ef30⟩ : ∃ z, z = fw_up f27 q29 (.inr (1, [.int 0, .int 0])) := ⟨_, rfl⟩
  have hw : fw_S D A s.heap f30 H locs := by rw [ef30]; exact hw
  have hO : Own f30 [(h0, .inr (8, [.ref q1, .ref q4, .ref q7, .ref q10, .ref q13, .int 0, .int 0, .int 0, .int 20000, .int 0])), (q1, .inl (y 3, 3, .inr (.inr (.inr (.inr (va_up (fun _ => none) 0 (some q22))))))), (q4, .inl (y 4, 3, .inr (.inr (.inr (.inr (fun _ => none)))))), (q7, .inl (y 8, 8, .inr (.inr (.inr (.inr (fun _ => none)))))), (q10, .inl (y 2, 20, .inr (.inr (.inr (.inr (fun _ => none)))))), (q13, .inl (y 7, 40, .inr (.inr (.inr (.inr (fun _ => none)))))), (q22, .inr (1, [.int 0, .int 0])), (q29, .inr (1, [.int 0, .int 0]))] := by rw [ef30]; exact hO.new hnq29
  refine lv_dup hx hb dX8_init_93 rfl ?_
  refine fw_callINv hx hb hml hown hts hE hw [] [.ref q29, .int 1, .ref q1] (c_X1_init l D A y sa f30 q29 0 0 (hO.get (i := 7) rfl)) ⟨va_cnB (host := RX8) 0 hts gX8_init_X1_init_n55 rfl rfl rfl (hE.1.2.2.2.1 (55, yX1_init) (by decide +kernel)) (hts (.initialized RX1) (by decide +kernel)) (by decide +kernel) ⟨Nat.le_of_ble_eq_true rfl, Nat.le_of_ble_eq_true rfl⟩, rfl, hts (.instanceMethod yX1_init) (by decide +kernel)⟩ rfl hl.1 rfl (Nat.le_of_ble_eq_true rfl) dX8_init_94 ⟨Nat.le_of_ble_eq_true rfl, Nat.le_of_ble_eq_true rfl⟩ (fun f32 H locs hp33 hw => ?_)
  have hO : Own f32 [(h0, .inr (8, [.ref q1, .ref q4, .ref q7, .ref q10, .ref q13, .int 0, .int 0, .int 0, .int 20000, .int 0])), (q1, .inl (y 3, 3, .inr (.inr (.inr (.inr (va_up (fun _ => none) 0 (some q22))))))), (q4, .inl (y 4, 3, .inr (.inr (.inr (.inr (fun _ => none)))))), (q7, .inl (y 8, 8, .inr (.inr (.inr (.inr (fun _ => none)))))), (q10, .inl (y 2, 20, .inr (.inr (.inr (.inr (fun _ => none)))))), (q13, .inl (y 7, 40, .inr (.inr (.inr (.inr (fun _ => none)))))), (q22, .inr (1, [.int 0, .int 0])), (q29, .inr (1, [.int 0, .int 0]))] := by rw [hp33]; exact hO.set (i := 7) rfl
  refine fw_aast (r := (RX1, TX1, 2)) hx hb hE.1.1 hw (g := (va_up (fun _ => none) 0 (some q22))) (hO.get (i := 1) rfl) 3 rfl (hO.get (i := 7) rfl) rfl (by have z : vp_in (nI 1) 3 := vp_in_nI (by decide) (by decide); exact z) dX8_init_97 (fun H locs hw => ?_)
  obtain ⟨f34, ef34⟩ : ∃ z, z = fw_up f32 q1 (.inl (y 3, 3, .inr (.inr (.inr (.inr (va_up (va_up (fun _ => none) 0 (some q22)) 1 (some q29))))))) := ⟨_, rfl⟩
  have hw : fw_S D A s.heap f34 H locs := by rw [ef34]; exact hw
  have hO : Own f34 [(h0, .inr (8, [.ref q1, .ref q4, .ref q7, .ref q10, .ref q13, .int 0, .int 0, .int 0, .int 20000, .int 0])), (q1, .inl (y 3, 3, .inr (.inr (.inr (.inr (va_up (va_up (fun _ => none) 0 (some q22)) 1 (some q29))))))), (q4, .inl (y 4, 3, .inr (.inr (.inr (.inr (fun _ => none)))))), (q7, .inl (y 8, 8, .inr (.inr (.inr (.inr (fun _ => none)))))), (q10, .inl (y 2, 20, .inr (.inr (.inr (.inr (fun _ => none)))))), (q13, .inl (y 7, 40, .inr (.inr (.inr (.inr (fun _ => none)))))), (q22, .inr (1, [.int 0, .int 0])), (q29, .inr (1, [.int 0, .int 0]))] := by rw [ef34]; exact hO.set (i := 1) rfl
  refine lv_iinc (v := 2) (lv' := [(1, .int 2), (0, .ref h0)]) hx hb dX8_init_98 hl (k := 0) rfl (by decide +kernel) (by decide) rfl (fun ls hl => ?_)
  refine lv_goto (tgt := 76) hx hb dX8_init_101 (by decide) ?_
  refine lv_iload_n hx hb dX8_init_76 rfl (lv_at hl 0 rfl) ?_
  refine lv_aload_n hx hb dX8_init_77 rfl (lv_at hl 1 rfl) ?_
  refine fw_get hx hb hts hown hE.1.1 hw (ci := 8) (fs := [.ref q1, .ref q4, .ref q7, .ref q10, .ref q13, .int 0, .int 0, .int 0, .int 20000, .int 0]) (v := .ref q1) (hO.get (i := 0) rfl) iX8_init_8 rfl 0 (by decide) rfl (by decide +kernel) dX8_init_78 ?_
  refine fw_alen hx hb hE.1.1 hw (hO.get (i := 1) rfl) 3 rfl (v := 3) rfl dX8_init_81 ?_
  refine lv_icmp_ge (tgt := 104) hx hb dX8_init_82 (by decide) (fun c_35 => absurd c_35 (by decide +kernel)) (fun _ => ?_)
  refine lv_aload_n hx hb dX8_init_85 rfl (lv_at hl 1 rfl) ?_
  refine fw_get hx hb hts hown hE.1.1 hw (ci := 8) (fs := [.ref q1, .ref q4, .ref q7, .ref q10, .ref q13, .int 0, .int 0, .int 0, .int 20000, .int 0]) (v := .ref q1) (hO.get (i := 0) rfl) iX8_init_8 rfl 0 (by decide) rfl (by decide +kernel) dX8_init_86 ?_
  refine lv_iload_n hx hb dX8_init_89 rfl (lv_at hl 0 rfl) ?_
  refine fw_new hx hb hts hown hE.1.1 hw hE.2.1 (ci := 1) (C := RX1) (T := TX1) (N := 2) (fs := [.int 0, .int 0]) iX8_init_1 tyX1 tyX1_ok (by decide +kernel) (by decide +kernel) (by decide +kernel) rfl (fun j hj => by rcases (show j = 0 ∨ j = 1 by omega) with rfl | rfl <;> rfl) (Nat.le_of_ble_eq_true rfl) (Nat.le_of_ble_eq_true rfl) dX8_init_90 (fun q36 H hnq36 hw => ?_)
  obtain ⟨f37, ef37⟩ : ∃ z, z = fw_up f34 q36 (.inr (1, [.int 0, .int 0])) := ⟨_, rfl⟩
  have hw : fw_S D A s.heap f37 H locs := by rw [ef37]; exact hw
  have hO : Own f37 [(h0, .inr (8, [.ref q1, .ref q4, .ref q7, .ref q10, .ref q13, .int 0, .int 0, .int 0, .int 20000, .int 0])), (q1, .inl (y 3, 3, .inr (.inr (.inr (.inr (va_up (va_up (fun _ => none) 0 (some q22)) 1 (some q29))))))), (q4, .inl (y 4, 3, .inr (.inr (.inr (.inr (fun _ => none)))))), (q7, .inl (y 8, 8, .inr (.inr (.inr (.inr (fun _ => none)))))), (q10, .inl (y 2, 20, .inr (.inr (.inr (.inr (fun _ => none)))))), (q13, .inl (y 7, 40, .inr (.inr (.inr (.inr (fun _ => none)))))), (q22, .inr (1, [.int 0, .int 0])), (q29, .inr (1, [.int 0, .int 0])), (q36, .inr (1, [.int 0, .int 0]))] := by rw [ef37]; exact hO.new hnq36
  refine lv_dup hx hb dX8_init_93 rfl ?_
  refine fw_callINv hx hb hml hown hts hE hw [] [.ref q36, .int 2, .ref q1] (c_X1_init l D A y sa f37 q36 0 0 (hO.get (i := 8) rfl)) ⟨va_cnB (host := RX8) 0 hts gX8_init_X1_init_n55 rfl rfl rfl (hE.1.2.2.2.1 (55, yX1_init) (by decide +kernel)) (hts (.initialized RX1) (by decide +kernel)) (by decide +kernel) ⟨Nat.le_of_ble_eq_true rfl, Nat.le_of_ble_eq_true rfl⟩, rfl, hts (.instanceMethod yX1_init) (by decide +kernel)⟩ rfl hl.1 rfl (Nat.le_of_ble_eq_true rfl) dX8_init_94 ⟨Nat.le_of_ble_eq_true rfl, Nat.le_of_ble_eq_true rfl⟩ (fun f39 H locs hp40 hw => ?_)
  have hO : Own f39 [(h0, .inr (8, [.ref q1, .ref q4, .ref q7, .ref q10, .ref q13, .int 0, .int 0, .int 0, .int 20000, .int 0])), (q1, .inl (y 3, 3, .inr (.inr (.inr (.inr (va_up (va_up (fun _ => none) 0 (some q22)) 1 (some q29))))))), (q4, .inl (y 4, 3, .inr (.inr (.inr (.inr (fun _ => none)))))), (q7, .inl (y 8, 8, .inr (.inr (.inr (.inr (fun _ => none)))))), (q10, .inl (y 2, 20, .inr (.inr (.inr (.inr (fun _ => none)))))), (q13, .inl (y 7, 40, .inr (.inr (.inr (.inr (fun _ => none)))))), (q22, .inr (1, [.int 0, .int 0])), (q29, .inr (1, [.int 0, .int 0])), (q36, .inr (1, [.int 0, .int 0]))] := by rw [hp40]; exact hO.set (i := 8) rfl
  refine fw_aast (r := (RX1, TX1, 2)) hx hb hE.1.1 hw (g := (va_up (va_up (fun _ => none) 0 (some q22)) 1 (some q29))) (hO.get (i := 1) rfl) 3 rfl (hO.get (i := 8) rfl) rfl (by have z : vp_in (nI 2) 3 := vp_in_nI (by decide) (by decide); exact z) dX8_init_97 (fun H locs hw => ?_)
  obtain ⟨f41, ef41⟩ : ∃ z, z = fw_up f39 q1 (.inl (y 3, 3, .inr (.inr (.inr (.inr (va_up (va_up (va_up (fun _ => none) 0 (some q22)) 1 (some q29)) 2 (some q36))))))) := ⟨_, rfl⟩
  have hw : fw_S D A s.heap f41 H locs := by rw [ef41]; exact hw
  have hO : Own f41 [(h0, .inr (8, [.ref q1, .ref q4, .ref q7, .ref q10, .ref q13, .int 0, .int 0, .int 0, .int 20000, .int 0])), (q1, .inl (y 3, 3, .inr (.inr (.inr (.inr (va_up (va_up (va_up (fun _ => none) 0 (some q22)) 1 (some q29)) 2 (some q36))))))), (q4, .inl (y 4, 3, .inr (.inr (.inr (.inr (fun _ => none)))))), (q7, .inl (y 8, 8, .inr (.inr (.inr (.inr (fun _ => none)))))), (q10, .inl (y 2, 20, .inr (.inr (.inr (.inr (fun _ => none)))))), (q13, .inl (y 7, 40, .inr (.inr (.inr (.inr (fun _ => none)))))), (q22, .inr (1, [.int 0, .int 0])), (q29, .inr (1, [.int 0, .int 0])), (q36, .inr (1, [.int 0, .int 0]))] := by rw [ef41]; exact hO.set (i := 1) rfl
  refine lv_iinc (v := 3) (lv' := [(1, .int 3), (0, .ref h0)]) hx hb dX8_init_98 hl (k := 0) rfl (by decide +kernel) (by decide) rfl (fun ls hl => ?_)
  refine lv_goto (tgt := 76) hx hb dX8_init_101 (by decide) ?_
  refine lv_iload_n hx hb dX8_init_76 rfl (lv_at hl 0 rfl) ?_
  refine lv_aload_n hx hb dX8_init_77 rfl (lv_at hl 1 rfl) ?_
  refine fw_get hx hb hts hown hE.1.1 hw (ci := 8) (fs := [.ref q1, .ref q4, .ref q7, .ref q10, .ref q13, .int 0, .int 0, .int 0, .int 20000, .int 0]) (v := .ref q1) (hO.get (i := 0) rfl) iX8_init_8 rfl 0 (by decide) rfl (by decide +kernel) dX8_init_78 ?_
  refine fw_alen hx hb hE.1.1 hw (hO.get (i := 1) rfl) 3 rfl (v := 3) rfl dX8_init_81 ?_
  refine lv_icmp_ge (tgt := 104) hx hb dX8_init_82 (by decide) (fun _ => ?_) (fun c_42 => absurd c_42 (by decide +kernel))
  refine lv_iconst (v := 0) hx hb dX8_init_104 (by decide) ?_
  refine lv_istore_n (lv' := [(1, .int 0), (0, .ref h0)]) hx hb dX8_init_105 rfl hl (by decide) rfl (fun ls hl => ?_)
  refine lv_iload_n hx hb dX8_init_106 rfl (lv_at hl 0 rfl) ?_
  refine lv_aload_n hx hb dX8_init_107 rfl (lv_at hl 1 rfl) ?_
  refine fw_get hx hb hts hown hE.1.1 hw (ci := 8) (fs := [.ref q1, .ref q4, .ref q7, .ref q10, .ref q13, .int 0, .int 0, .int 0, .int 20000, .int 0]) (v := .ref q4) (hO.get (i := 0) rfl) iX8_init_8 rfl 1 (by decide) rfl (by decide +kernel) dX8_init_108 ?_
  refine fw_alen hx hb hE.1.1 hw (hO.get (i := 2) rfl) 4 rfl (v := 3) rfl dX8_init_111 ?_
  refine lv_icmp_ge (tgt := 134) hx hb dX8_init_112 (by decide) (fun c_43 => absurd c_43 (by decide +kernel)) (fun _ => ?_)
  refine lv_aload_n hx hb dX8_init_115 rfl (lv_at hl 1 rfl) ?_
  refine fw_get hx hb hts hown hE.1.1 hw (ci := 8) (fs := [.ref q1, .ref q4, .ref q7, .ref q10, .ref q13, .int 0, .int 0, .int 0, .int 20000, .int 0]) (v := .ref q4) (hO.get (i := 0) rfl) iX8_init_8 rfl 1 (by decide) rfl (by decide +kernel) dX8_init_116 ?_
  refine lv_iload_n hx hb dX8_init_119 rfl (lv_at hl 0 rfl) ?_
  refine fw_new hx hb hts hown hE.1.1 hw hE.2.1 (ci := 2) (C := RX2) (T := TX2) (N := 2) (fs := [.null, .null]) iX8_init_2 tyX2 tyX2_ok (by decide +kernel) (by decide +kernel) (by decide +kernel) rfl (fun j hj => by rcases (show j = 0 ∨ j = 1 by omega) with rfl | rfl <;> rfl) (Nat.le_of_ble_eq_true rfl) (Nat.le_of_ble_eq_true rfl) dX8_init_120 (fun q44 H hnq44 hw => ?_)
  obtain ⟨f45, ef45⟩ : ∃ z, z = fw_up f41 q44 (.inr (2, [.null, .null])) := ⟨_, rfl⟩
  have hw : fw_S D A s.heap f45 H locs := by rw [ef45]; exact hw
  have hO : Own f45 [(h0, .inr (8, [.ref q1, .ref q4, .ref q7, .ref q10, .ref q13, .int 0, .int 0, .int 0, .int 20000, .int 0])), (q1, .inl (y 3, 3, .inr (.inr (.inr (.inr (va_up (va_up (va_up (fun _ => none) 0 (some q22)) 1 (some q29)) 2 (some q36))))))), (q4, .inl (y 4, 3, .inr (.inr (.inr (.inr (fun _ => none)))))), (q7, .inl (y 8, 8, .inr (.inr (.inr (.inr (fun _ => none)))))), (q10, .inl (y 2, 20, .inr (.inr (.inr (.inr (fun _ => none)))))), (q13, .inl (y 7, 40, .inr (.inr (.inr (.inr (fun _ => none)))))), (q22, .inr (1, [.int 0, .int 0])), (q29, .inr (1, [.int 0, .int 0])), (q36, .inr (1, [.int 0, .int 0])), (q44, .inr (2, [.null, .null]))] := by rw [ef45]; exact hO.new hnq44
  refine lv_dup hx hb dX8_init_123 rfl ?_
  refine fw_callINv hx hb hml hown hts hE hw [] [.ref q44, .int 0, .ref q4] (c_X2_init l D A y sa f45 q44 (hO.get (i := 9) rfl)) ⟨va_cnB (host := RX8) 0 hts gX8_init_X2_init_n56 rfl rfl rfl (hE.1.2.2.2.1 (56, yX2_init) (by decide +kernel)) (hts (.initialized RX2) (by decide +kernel)) (by decide +kernel) ⟨Nat.le_of_ble_eq_true rfl, Nat.le_of_ble_eq_true rfl⟩, rfl, hts (.instanceMethod yX2_init) (by decide +kernel)⟩ rfl hl.1 rfl (Nat.le_of_ble_eq_true rfl) dX8_init_124 ⟨Nat.le_of_ble_eq_true rfl, Nat.le_of_ble_eq_true rfl⟩ (fun f47 H locs hp48 hw => ?_)
  obtain ⟨a49, a50, a51, a52, a53, a54, n1, n2, n3, n4, n5, n6, hnd, k0, k1, k2, k3, k4, k5, k6, ho⟩ := hp48
  have hO : Own f47 [(h0, .inr (8, [.ref q1, .ref q4, .ref q7, .ref q10, .ref q13, .int 0, .int 0, .int 0, .int 20000, .int 0])), (q1, .inl (y 3, 3, .inr (.inr (.inr (.inr (va_up (va_up (va_up (fun _ => none) 0 (some q22)) 1 (some q29)) 2 (some q36))))))), (q4, .inl (y 4, 3, .inr (.inr (.inr (.inr (fun _ => none)))))), (q7, .inl (y 8, 8, .inr (.inr (.inr (.inr (fun _ => none)))))), (q10, .inl (y 2, 20, .inr (.inr (.inr (.inr (fun _ => none)))))), (q13, .inl (y 7, 40, .inr (.inr (.inr (.inr (fun _ => none)))))), (q22, .inr (1, [.int 0, .int 0])), (q29, .inr (1, [.int 0, .int 0])), (q36, .inr (1, [.int 0, .int 0])), (q44, .inr (2, [.ref a49, .ref a52])), (a49, .inr (3, [.ref a50, .ref a51])), (a50, .inl (y 0, 31, .inl (fillv 1000 31))), (a51, .inl (y 1, 31, .inl (fun _ => 0))), (a52, .inr (3, [.ref a53, .ref a54])), (a53, .inl (y 0, 31, .inl (fillv 1500 31))), (a54, .inl (y 1, 31, .inl (fun _ => 0)))] := hO.six (i := 9) rfl n1 n2 n3 n4 n5 n6 hnd k0 k1 k2 k3 k4 k5 k6 ho
  refine fw_aast (r := (RX2, TX2, 2)) hx hb hE.1.1 hw (g := (fun _ => none)) (hO.get (i := 2) rfl) 4 rfl (hO.get (i := 9) rfl) rfl (by have z : vp_in (nI 0) 3 := vp_in_nI (by decide) (by decide); exact z) dX8_init_127 (fun H locs hw => ?_)
  obtain ⟨f55, ef55⟩ : ∃ z, z = fw_up f47 q4 (.inl (y 4, 3, .inr (.inr (.inr (.inr (va_up (fun _ => none) 0 (some q44))))))) := ⟨_, rfl⟩
  have hw : fw_S D A s.heap f55 H locs := by rw [ef55]; exact hw
  have hO : Own f55 [(h0, .inr (8, [.ref q1, .ref q4, .ref q7, .ref q10, .ref q13, .int 0, .int 0, .int 0, .int 20000, .int 0])), (q1, .inl (y 3, 3, .inr (.inr (.inr (.inr (va_up (va_up (va_up (fun _ => none) 0 (some q22)) 1 (some q29)) 2 (some q36))))))), (q4, .inl (y 4, 3, .inr (.inr (.inr (.inr (va_up (fun _ => none) 0 (some q44))))))), (q7, .inl (y 8, 8, .inr (.inr (.inr (.inr (fun _ => none)))))), (q10, .inl (y 2, 20, .inr (.inr (.inr (.inr (fun _ => none)))))), (q13, .inl (y 7, 40, .inr (.inr (.inr (.inr (fun _ => none)))))), (q22, .inr (1, [.int 0, .int 0])), (q29, .inr (1, [.int 0, .int 0])), (q36, .inr (1, [.int 0, .int 0])), (q44, .inr (2, [.ref a49, .ref a52])), (a49, .inr (3, [.ref a50, .ref a51])), (a50, .inl (y 0, 31, .inl (fillv 1000 31))), (a51, .inl (y 1, 31, .inl (fun _ => 0))), (a52, .inr (3, [.ref a53, .ref a54])), (a53, .inl (y 0, 31, .inl (fillv 1500 31))), (a54, .inl (y 1, 31, .inl (fun _ => 0)))] := by rw [ef55]; exact hO.set (i := 2) rfl
  refine lv_iinc (v := 1) (lv' := [(1, .int 1), (0, .ref h0)]) hx hb dX8_init_128 hl (k := 0) rfl (by decide +kernel) (by decide) rfl (fun ls hl => ?_)
  refine lv_goto (tgt := 106) hx hb dX8_init_131 (by decide) ?_
  refine lv_iload_n hx hb dX8_init_106 rfl (lv_at hl 0 rfl) ?_
  refine lv_aload_n hx hb dX8_init_107 rfl (lv_at hl 1 rfl) ?_
  refine fw_get hx hb hts hown hE.1.1 hw (ci := 8) (fs := [.ref q1, .ref q4, .ref q7, .ref q10, .ref q13, .int 0, .int 0, .int 0, .int 20000, .int 0]) (v := .ref q4) (hO.get (i := 0) rfl) iX8_init_8 rfl 1 (by decide) rfl (by decide +kernel) dX8_init_108 ?_
  refine fw_alen hx hb hE.1.1 hw (hO.get (i := 2) rfl) 4 rfl (v := 3) rfl dX8_init_111 ?_
  refine lv_icmp_ge (tgt := 134) hx hb dX8_init_112 (by decide) (fun c_56 => absurd c_56 (by decide +kernel)) (fun _ => ?_)
  refine lv_aload_n hx hb dX8_init_115 rfl (lv_at hl 1 rfl) ?_
  refine fw_get hx hb hts hown hE.1.1 hw (ci := 8) (fs := [.ref q1, .ref q4, .ref q7, .ref q10, .ref q13, .int 0, .int 0, .int 0, .int 20000, .int 0]) (v := .ref q4) (hO.get (i := 0) rfl) iX8_init_8 rfl 1 (by decide) rfl (by decide +kernel) dX8_init_116 ?_
  refine lv_iload_n hx hb dX8_init_119 rfl (lv_at hl 0 rfl) ?_
  refine fw_new hx hb hts hown hE.1.1 hw hE.2.1 (ci := 2) (C := RX2) (T := TX2) (N := 2) (fs := [.null, .null]) iX8_init_2 tyX2 tyX2_ok (by decide +kernel) (by decide +kernel) (by decide +kernel) rfl (fun j hj => by rcases (show j = 0 ∨ j = 1 by omega) with rfl | rfl <;> rfl) (Nat.le_of_ble_eq_true rfl) (Nat.le_of_ble_eq_true rfl) dX8_init_120 (fun q57 H hnq57 hw => ?_)
  obtain ⟨f58, ef58⟩ : ∃ z, z = fw_up f55 q57 (.inr (2, [.null, .null])) := ⟨_, rfl⟩
  have hw : fw_S D A s.heap f58 H locs := by rw [ef58]; exact hw
  have hO : Own f58 [(h0, .inr (8, [.ref q1, .ref q4, .ref q7, .ref q10, .ref q13, .int 0, .int 0, .int 0, .int 20000, .int 0])), (q1, .inl (y 3, 3, .inr (.inr (.inr (.inr (va_up (va_up (va_up (fun _ => none) 0 (some q22)) 1 (some q29)) 2 (some q36))))))), (q4, .inl (y 4, 3, .inr (.inr (.inr (.inr (va_up (fun _ => none) 0 (some q44))))))), (q7, .inl (y 8, 8, .inr (.inr (.inr (.inr (fun _ => none)))))), (q10, .inl (y 2, 20, .inr (.inr (.inr (.inr (fun _ => none)))))), (q13, .inl (y 7, 40, .inr (.inr (.inr (.inr (fun _ => none)))))), (q22, .inr (1, [.int 0, .int 0])), (q29, .inr (1, [.int 0, .int 0])), (q36, .inr (1, [.int 0, .int 0])), (q44, .inr (2, [.ref a49, .ref a52])), (a49, .inr (3, [.ref a50, .ref a51])), (a50, .inl (y 0, 31, .inl (fillv 1000 31))), (a51, .inl (y 1, 31, .inl (fun _ => 0))), (a52, .inr (3, [.ref a53, .ref a54])), (a53, .inl (y 0, 31, .inl (fillv 1500 31))), (a54, .inl (y 1, 31, .inl (fun _ => 0))), (q57, .inr (2, [.null, .null]))] := by rw [ef58]; exact hO.new hnq57
  refine lv_dup hx hb dX8_init_123 rfl ?_
  refine fw_callINv hx hb hml hown hts hE hw [] [.ref q57, .int 1, .ref q4] (c_X2_init l D A y sa f58 q57 (hO.get (i := 16) rfl)) ⟨va_cnB (host := RX8) 0 hts gX8_init_X2_init_n56 rfl rfl rfl (hE.1.2.2.2.1 (56, yX2_init) (by decide +kernel)) (hts (.initialized RX2) (by decide +kernel)) (by decide +kernel) ⟨Nat.le_of_ble_eq_true rfl, Nat.le_of_ble_eq_true rfl⟩, rfl, hts (.instanceMethod yX2_init) (by decide +kernel)⟩ rfl hl.1 rfl (Nat.le_of_ble_eq_true rfl) dX8_init_124 ⟨Nat.le_of_ble_eq_true rfl, Nat.le_of_ble_eq_true rfl⟩ (fun f60 H locs hp61 hw => ?_)
  obtain ⟨a62, a63, a64, a65, a66, a67, n1, n2, n3, n4, n5, n6, hnd, k0, k1, k2, k3, k4, k5, k6, ho⟩ := hp61
  have hO : Own f60 [(h0, .inr (8, [.ref q1, .ref q4, .ref q7, .ref q10, .ref q13, .int 0, .int 0, .int 0, .int 20000, .int 0])), (q1, .inl (y 3, 3, .inr (.inr (.inr (.inr (va_up (va_up (va_up (fun _ => none) 0 (some q22)) 1 (some q29)) 2 (some q36))))))), (q4, .inl (y 4, 3, .inr (.inr (.inr (.inr (va_up (fun _ => none) 0 (some q44))))))), (q7, .inl (y 8, 8, .inr (.inr (.inr (.inr (fun _ => none)))))), (q10, .inl (y 2, 20, .inr (.inr (.inr (.inr (fun _ => none)))))), (q13, .inl (y 7, 40, .inr (.inr (.inr (.inr (fun _ => none)))))), (q22, .inr (1, [.int 0, .int 0])), (q29, .inr (1, [.int 0, .int 0])), (q36, .inr (1, [.int 0, .int 0])), (q44, .inr (2, [.ref a49, .ref a52])), (a49, .inr (3, [.ref a50, .ref a51])), (a50, .inl (y 0, 31, .inl (fillv 1000 31))), (a51, .inl (y 1, 31, .inl (fun _ => 0))), (a52, .inr (3, [.ref a53, .ref a54])), (a53, .inl (y 0, 31, .inl (fillv 1500 31))), (a54, .inl (y 1, 31, .inl (fun _ => 0))), (q57, .inr (2, [.ref a62, .ref a65])), (a62, .inr (3, [.ref a63, .ref a64])), (a63, .inl (y 0, 31, .inl (fillv 1000 31))), (a64, .inl (y 1, 31, .inl (fun _ => 0))), (a65, .inr (3, [.ref a66, .ref a67])), (a66, .inl (y 0, 31, .inl (fillv 1500 31))), (a67, .inl (y 1, 31, .inl (fun _ => 0)))] := hO.six (i := 16) rfl n1 n2 n3 n4 n5 n6 hnd k0 k1 k2 k3 k4 k5 k6 ho
  refine fw_aast (r := (RX2, TX2, 2)) hx hb hE.1.1 hw (g := (va_up (fun _ => none) 0 (some q44))) (hO.get (i := 2) rfl) 4 rfl (hO.get (i := 16) rfl) rfl (by have z : vp_in (nI 1) 3 := vp_in_nI (by decide) (by decide); exact z) dX8_init_127 (fun H locs hw => ?_)
  obtain ⟨f68, ef68⟩ : ∃ z, z = fw_up f60 q4 (.inl (y 4, 3, .inr (.inr (.inr (.inr (va_up (va_up (fun _ => none) 0 (some q44)) 1 (some q57))))))) := ⟨_, rfl⟩
  have hw : fw_S D A s.heap f68 H locs := by rw [ef68]; exact hw
  have hO : Own f68 [(h0, .inr (8, [.ref q1, .ref q4, .ref q7, .ref q10, .ref q13, .int 0, .int 0, .int 0, .int 20000, .int 0])), (q1, .inl (y 3, 3, .inr (.inr (.inr (.inr (va_up (va_up (va_up (fun _ => none) 0 (some q22)) 1 (some q29)) 2 (some q36))))))), (q4, .inl (y 4, 3, .inr (.inr (.inr (.inr (va_up (va_up (fun _ => none) 0 (some q44)) 1 (some q57))))))), (q7, .inl (y 8, 8, .inr (.inr (.inr (.inr (fun _ => none)))))), (q10, .inl (y 2, 20, .inr (.inr (.inr (.inr (fun _ => none)))))), (q13, .inl (y 7, 40, .inr (.inr (.inr (.inr (fun _ => none)))))), (q22, .inr (1, [.int 0, .int 0])), (q29, .inr (1, [.int 0, .int 0])), (q36, .inr (1, [.int 0, .int 0])), (q44, .inr (2, [.ref a49, .ref a52])), (a49, .inr (3, [.ref a50, .ref a51])), (a50, .inl (y 0, 31, .inl (fillv 1000 31))), (a51, .inl (y 1, 31, .inl (fun _ => 0))), (a52, .inr (3, [.ref a53, .ref a54])), (a53, .inl (y 0, 31, .inl (fillv 1500 31))), (a54, .inl (y 1, 31, .inl (fun _ => 0))), (q57, .inr (2, [.ref a62, .ref a65])), (a62, .inr (3, [.ref a63, .ref a64])), (a63, .inl (y 0, 31, .inl (fillv 1000 31))), (a64, .inl (y 1, 31, .inl (fun _ => 0))), (a65, .inr (3, [.ref a66, .ref a67])), (a66, .inl (y 0, 31, .inl (fillv 1500 31))), (a67, .inl (y 1, 31, .inl (fun _ => 0)))] := by rw [ef68]; exact hO.set (i := 2) rfl
  refine lv_iinc (v := 2) (lv' := [(1, .int 2), (0, .ref h0)]) hx hb dX8_init_128 hl (k := 0) rfl (by decide +kernel) (by decide) rfl (fun ls hl => ?_)
  refine lv_goto (tgt := 106) hx hb dX8_init_131 (by decide) ?_
  refine lv_iload_n hx hb dX8_init_106 rfl (lv_at hl 0 rfl) ?_
  refine lv_aload_n hx hb dX8_init_107 rfl (lv_at hl 1 rfl) ?_
  refine fw_get hx hb hts hown hE.1.1 hw (ci := 8) (fs := [.ref q1, .ref q4, .ref q7, .ref q10, .ref q13, .int 0, .int 0, .int 0, .int 20000, .int 0]) (v := .ref q4) (hO.get (i := 0) rfl) iX8_init_8 rfl 1 (by decide) rfl (by decide +kernel) dX8_init_108 ?_
  refine fw_alen hx hb hE.1.1 hw (hO.get (i := 2) rfl) 4 rfl (v := 3) rfl dX8_init_111 ?_
  refine lv_icmp_ge (tgt := 134) hx hb dX8_init_112 (by decide) (fun c_69 => absurd c_69 (by decide +kernel)) (fun _ => ?_)
  refine lv_aload_n hx hb dX8_init_115 rfl (lv_at hl 1 rfl) ?_
  refine fw_get hx hb hts hown hE.1.1 hw (ci := 8) (fs := [.ref q1, .ref q4, .ref q7, .ref q10, .ref q13, .int 0, .int 0, .int 0, .int 20000, .int 0]) (v := .ref q4) (hO.get (i := 0) rfl) iX8_init_8 rfl 1 (by decide) rfl (by decide +kernel) dX8_init_116 ?_
  refine lv_iload_n hx hb dX8_init_119 rfl (lv_at hl 0 rfl) ?_
  refine fw_new hx hb hts hown hE.1.1 hw hE.2.1 (ci := 2) (C := RX2) (T := TX2) (N := 2) (fs := [.null, .null]) iX8_init_2 tyX2 tyX2_ok (by decide +kernel) (by decide +kernel) (by decide +kernel) rfl (fun j hj => by rcases (show j = 0 ∨ j = 1 by omega) with rfl | rfl <;> rfl) (Nat.le_of_ble_eq_true rfl) (Nat.le_of_ble_eq_true rfl) dX8_init_120 (fun q70 H hnq70 hw => ?_)
  obtain ⟨f71, ef71⟩ : ∃ z, z = fw_up f68 q70 (.inr (2, [.null, .null])) := ⟨_, rfl⟩
  have hw : fw_S D A s.heap f71 H locs := by rw [ef71]; exact hw
  have hO : Own f71 [(h0, .inr (8, [.ref q1, .ref q4, .ref q7, .ref q10, .ref q13, .int 0, .int 0, .int 0, .int 20000, .int 0])), (q1, .inl (y 3, 3, .inr (.inr (.inr (.inr (va_up (va_up (va_up (fun _ => none) 0 (some q22)) 1 (some q29)) 2 (some q36))))))), (q4, .inl (y 4, 3, .inr (.inr (.inr (.inr (va_up (va_up (fun _ => none) 0 (some q44)) 1 (some q57))))))), (q7, .inl (y 8, 8, .inr (.inr (.inr (.inr (fun _ => none)))))), (q10, .inl (y 2, 20, .inr (.inr (.inr (.inr (fun _ => none)))))), (q13, .inl (y 7, 40, .inr (.inr (.inr (.inr (fun _ => none)))))), (q22, .inr (1, [.int 0, .int 0])), (q29, .inr (1, [.int 0, .int 0])), (q36, .inr (1, [.int 0, .int 0])), (q44, .inr (2, [.ref a49, .ref a52])), (a49, .inr (3, [.ref a50, .ref a51])), (a50, .inl (y 0, 31, .inl (fillv 1000 31))), (a51, .inl (y 1, 31, .inl (fun _ => 0))), (a52, .inr (3, [.ref a53, .ref a54])), (a53, .inl (y 0, 31, .inl (fillv 1500 31))), (a54, .inl (y 1, 31, .inl (fun _ => 0))), (q57, .inr (2, [.ref a62, .ref a65])), (a62, .inr (3, [.ref a63, .ref a64])), (a63, .inl (y 0, 31, .inl (fillv 1000 31))), (a64, .inl (y 1, 31, .inl (fun _ => 0))), (a65, .inr (3, [.ref a66, .ref a67])), (a66, .inl (y 0, 31, .inl (fillv 1500 31))), (a67, .inl (y 1, 31, .inl (fun _ => 0))), (q70, .inr (2, [.null, .null]))] := by rw [ef71]; exact hO.new hnq70
  refine lv_dup hx hb dX8_init_123 rfl ?_
  refine fw_callINv hx hb hml hown hts hE hw [] [.ref q70, .int 2, .ref q4] (c_X2_init l D A y sa f71 q70 (hO.get (i := 23) rfl)) ⟨va_cnB (host := RX8) 0 hts gX8_init_X2_init_n56 rfl rfl rfl (hE.1.2.2.2.1 (56, yX2_init) (by decide +kernel)) (hts (.initialized RX2) (by decide +kernel)) (by decide +kernel) ⟨Nat.le_of_ble_eq_true rfl, Nat.le_of_ble_eq_true rfl⟩, rfl, hts (.instanceMethod yX2_init) (by decide +kernel)⟩ rfl hl.1 rfl (Nat.le_of_ble_eq_true rfl) dX8_init_124 ⟨Nat.le_of_ble_eq_true rfl, Nat.le_of_ble_eq_true rfl⟩ (fun f73 H locs hp74 hw => ?_)
  obtain ⟨a75, a76, a77, a78, a79, a80, n1, n2, n3, n4, n5, n6, hnd, k0, k1, k2, k3, k4, k5, k6, ho⟩ := hp74
  have hO : Own f73 [(h0, .inr (8, [.ref q1, .ref q4, .ref q7, .ref q10, .ref q13, .int 0, .int 0, .int 0, .int 20000, .int 0])), (q1, .inl (y 3, 3, .inr (.inr (.inr (.inr (va_up (va_up (va_up (fun _ => none) 0 (some q22)) 1 (some q29)) 2 (some q36))))))), (q4, .inl (y 4, 3, .inr (.inr (.inr (.inr (va_up (va_up (fun _ => none) 0 (some q44)) 1 (some q57))))))), (q7, .inl (y 8, 8, .inr (.inr (.inr (.inr (fun _ => none)))))), (q10, .inl (y 2, 20, .inr (.inr (.inr (.inr (fun _ => none)))))), (q13, .inl (y 7, 40, .inr (.inr (.inr (.inr (fun _ => none)))))), (q22, .inr (1, [.int 0, .int 0])), (q29, .inr (1, [.int 0, .int 0])), (q36, .inr (1, [.int 0, .int 0])), (q44, .inr (2, [.ref a49, .ref a52])), (a49, .inr (3, [.ref a50, .ref a51])), (a50, .inl (y 0, 31, .inl (fillv 1000 31))), (a51, .inl (y 1, 31, .inl (fun _ => 0))), (a52, .inr (3, [.ref a53, .ref a54])), (a53, .inl (y 0, 31, .inl (fillv 1500 31))), (a54, .inl (y 1, 31, .inl (fun _ => 0))), (q57, .inr (2, [.ref a62, .ref a65])), (a62, .inr (3, [.ref a63, .ref a64])), (a63, .inl (y 0, 31, .inl (fillv 1000 31))), (a64, .inl (y 1, 31, .inl (fun _ => 0))), (a65, .inr (3, [.ref a66, .ref a67])), (a66, .inl (y 0, 31, .inl (fillv 1500 31))), (a67, .inl (y 1, 31, .inl (fun _ => 0))), (q70, .inr (2, [.ref a75, .ref a78])), (a75, .inr (3, [.ref a76, .ref a77])), (a76, .inl (y 0, 31, .inl (fillv 1000 31))), (a77, .inl (y 1, 31, .inl (fun _ => 0))), (a78, .inr (3, [.ref a79, .ref a80])), (a79, .inl (y 0, 31, .inl (fillv 1500 31))), (a80, .inl (y 1, 31, .inl (fun _ => 0)))] := hO.six (i := 23) rfl n1 n2 n3 n4 n5 n6 hnd k0 k1 k2 k3 k4 k5 k6 ho
  refine fw_aast (r := (RX2, TX2, 2)) hx hb hE.1.1 hw (g := (va_up (va_up (fun _ => none) 0 (some q44)) 1 (some q57))) (hO.get (i := 2) rfl) 4 rfl (hO.get (i := 23) rfl) rfl (by have z : vp_in (nI 2) 3 := vp_in_nI (by decide) (by decide); exact z) dX8_init_127 (fun H locs hw => ?_)
  obtain ⟨f81, ef81⟩ : ∃ z, z = fw_up f73 q4 (.inl (y 4, 3, .inr (.inr (.inr (.inr (va_up (va_up (va_up (fun _ => none) 0 (some q44)) 1 (some q57)) 2 (some q70))))))) := ⟨_, rfl⟩
  have hw : fw_S D A s.heap f81 H locs := by rw [ef81]; exact hw
  have hO : Own f81 [(h0, .inr (8, [.ref q1, .ref q4, .ref q7, .ref q10, .ref q13, .int 0, .int 0, .int 0, .int 20000, .int 0])), (q1, .inl (y 3, 3, .inr (.inr (.inr (.inr (va_up (va_up (va_up (fun _ => none) 0 (some q22)) 1 (some q29)) 2 (some q36))))))), (q4, .inl (y 4, 3, .inr (.inr (.inr (.inr (va_up (va_up (va_up (fun _ => none) 0 (some q44)) 1 (some q57)) 2 (some q70))))))), (q7, .inl (y 8, 8, .inr (.inr (.inr (.inr (fun _ => none)))))), (q10, .inl (y 2, 20, .inr (.inr (.inr (.inr (fun _ => none)))))), (q13, .inl (y 7, 40, .inr (.inr (.inr (.inr (fun _ => none)))))), (q22, .inr (1, [.int 0, .int 0])), (q29, .inr (1, [.int 0, .int 0])), (q36, .inr (1, [.int 0, .int 0])), (q44, .inr (2, [.ref a49, .ref a52])), (a49, .inr (3, [.ref a50, .ref a51])), (a50, .inl (y 0, 31, .inl (fillv 1000 31))), (a51, .inl (y 1, 31, .inl (fun _ => 0))), (a52, .inr (3, [.ref a53, .ref a54])), (a53, .inl (y 0, 31, .inl (fillv 1500 31))), (a54, .inl (y 1, 31, .inl (fun _ => 0))), (q57, .inr (2, [.ref a62, .ref a65])), (a62, .inr (3, [.ref a63, .ref a64])), (a63, .inl (y 0, 31, .inl (fillv 1000 31))), (a64, .inl (y 1, 31, .inl (fun _ => 0))), (a65, .inr (3, [.ref a66, .ref a67])), (a66, .inl (y 0, 31, .inl (fillv 1500 31))), (a67, .inl (y 1, 31, .inl (fun _ => 0))), (q70, .inr (2, [.ref a75, .ref a78])), (a75, .inr (3, [.ref a76, .ref a77])), (a76, .inl (y 0, 31, .inl (fillv 1000 31))), (a77, .inl (y 1, 31, .inl (fun _ => 0))), (a78, .inr (3, [.ref a79, .ref a80])), (a79, .inl (y 0, 31, .inl (fillv 1500 31))), (a80, .inl (y 1, 31, .inl (fun _ => 0)))] := by rw [ef81]; exact hO.set (i := 2) rfl
  refine lv_iinc (v := 3) (lv' := [(1, .int 3), (0, .ref h0)]) hx hb dX8_init_128 hl (k := 0) rfl (by decide +kernel) (by decide) rfl (fun ls hl => ?_)
  refine lv_goto (tgt := 106) hx hb dX8_init_131 (by decide) ?_
  refine lv_iload_n hx hb dX8_init_106 rfl (lv_at hl 0 rfl) ?_
  refine lv_aload_n hx hb dX8_init_107 rfl (lv_at hl 1 rfl) ?_
  refine fw_get hx hb hts hown hE.1.1 hw (ci := 8) (fs := [.ref q1, .ref q4, .ref q7, .ref q10, .ref q13, .int 0, .int 0, .int 0, .int 20000, .int 0]) (v := .ref q4) (hO.get (i := 0) rfl) iX8_init_8 rfl 1 (by decide) rfl (by decide +kernel) dX8_init_108 ?_
  refine fw_alen hx hb hE.1.1 hw (hO.get (i := 2) rfl) 4 rfl (v := 3) rfl dX8_init_111 ?_
  refine lv_icmp_ge (tgt := 134) hx hb dX8_init_112 (by decide) (fun _ => ?_) (fun c_82 => absurd c_82 (by decide +kernel))
  obtain ⟨B, eB⟩ : ∃ B : Nat → Nat, B = fun n => [h0, q1, q4, q7, q10, q13, q22, q29, q36, q44, a49, a50, a51, a52, a53, a54, q57, a62, a63, a64, a65, a66, a67, q70, a75, a76, a77, a78, a79, a80].getD n 0 := ⟨_, rfl⟩
  have b0 : B 0 = h0 := by rw [eB]; rfl
  have b1 : B 1 = q1 := by rw [eB]; rfl
  have b2 : B 2 = q4 := by rw [eB]; rfl
  have b3 : B 3 = q7 := by rw [eB]; rfl
  have b4 : B 4 = q10 := by rw [eB]; rfl
  have b5 : B 5 = q13 := by rw [eB]; rfl
  have b6 : B 6 = q22 := by rw [eB]; rfl
  have b7 : B 7 = q29 := by rw [eB]; rfl
  have b8 : B 8 = q36 := by rw [eB]; rfl
  have b9 : B 9 = q44 := by rw [eB]; rfl
  have b10 : B 10 = a49 := by rw [eB]; rfl
  have b11 : B 11 = a50 := by rw [eB]; rfl
  have b12 : B 12 = a51 := by rw [eB]; rfl
  have b13 : B 13 = a52 := by rw [eB]; rfl
  have b14 : B 14 = a53 := by rw [eB]; rfl
  have b15 : B 15 = a54 := by rw [eB]; rfl
  have b16 : B 16 = q57 := by rw [eB]; rfl
  have b17 : B 17 = a62 := by rw [eB]; rfl
  have b18 : B 18 = a63 := by rw [eB]; rfl
  have b19 : B 19 = a64 := by rw [eB]; rfl
  have b20 : B 20 = a65 := by rw [eB]; rfl
  have b21 : B 21 = a66 := by rw [eB]; rfl
  have b22 : B 22 = a67 := by rw [eB]; rfl
  have b23 : B 23 = q70 := by rw [eB]; rfl
  have b24 : B 24 = a75 := by rw [eB]; rfl
  have b25 : B 25 = a76 := by rw [eB]; rfl
  have b26 : B 26 = a77 := by rw [eB]; rfl
  have b27 : B 27 = a78 := by rw [eB]; rfl
  have b28 : B 28 = a79 := by rw [eB]; rfl
  have b29 : B 29 = a80 := by rw [eB]; rfl
  have hinj : ∀ i j, i < 30 → j < 30 → B i = B j → i = j := by
    intro i j hi hj hij
    obtain ⟨x1, hx1⟩ : ∃ x, ([(h0, .inr (8, [.ref q1, .ref q4, .ref q7, .ref q10, .ref q13, .int 0, .int 0, .int 0, .int 20000, .int 0])), (q1, .inl (y 3, 3, .inr (.inr (.inr (.inr (va_up (va_up (va_up (fun _ => none) 0 (some q22)) 1 (some q29)) 2 (some q36))))))), (q4, .inl (y 4, 3, .inr (.inr (.inr (.inr (va_up (va_up (va_up (fun _ => none) 0 (some q44)) 1 (some q57)) 2 (some q70))))))), (q7, .inl (y 8, 8, .inr (.inr (.inr (.inr (fun _ => none)))))), (q10, .inl (y 2, 20, .inr (.inr (.inr (.inr (fun _ => none)))))), (q13, .inl (y 7, 40, .inr (.inr (.inr (.inr (fun _ => none)))))), (q22, .inr (1, [.int 0, .int 0])), (q29, .inr (1, [.int 0, .int 0])), (q36, .inr (1, [.int 0, .int 0])), (q44, .inr (2, [.ref a49, .ref a52])), (a49, .inr (3, [.ref a50, .ref a51])), (a50, .inl (y 0, 31, .inl (fillv 1000 31))), (a51, .inl (y 1, 31, .inl (fun _ => 0))), (a52, .inr (3, [.ref a53, .ref a54])), (a53, .inl (y 0, 31, .inl (fillv 1500 31))), (a54, .inl (y 1, 31, .inl (fun _ => 0))), (q57, .inr (2, [.ref a62, .ref a65])), (a62, .inr (3, [.ref a63, .ref a64])), (a63, .inl (y 0, 31, .inl (fillv 1000 31))), (a64, .inl (y 1, 31, .inl (fun _ => 0))), (a65, .inr (3, [.ref a66, .ref a67])), (a66, .inl (y 0, 31, .inl (fillv 1500 31))), (a67, .inl (y 1, 31, .inl (fun _ => 0))), (q70, .inr (2, [.ref a75, .ref a78])), (a75, .inr (3, [.ref a76, .ref a77])), (a76, .inl (y 0, 31, .inl (fillv 1000 31))), (a77, .inl (y 1, 31, .inl (fun _ => 0))), (a78, .inr (3, [.ref a79, .ref a80])), (a79, .inl (y 0, 31, .inl (fillv 1500 31))), (a80, .inl (y 1, 31, .inl (fun _ => 0)))] : List (Nat × va_E))[i]? = some (B i, x) := Own.at (L := [(h0, .inr (8, [.ref q1, .ref q4, .ref q7, .ref q10, .ref q13, .int 0, .int 0, .int 0, .int 20000, .int 0])), (q1, .inl (y 3, 3, .inr (.inr (.inr (.inr (va_up (va_up (va_up (fun _ => none) 0 (some q22)) 1 (some q29)) 2 (some q36))))))), (q4, .inl (y 4, 3, .inr (.inr (.inr (.inr (va_up (va_up (va_up (fun _ => none) 0 (some q44)) 1 (some q57)) 2 (some q70))))))), (q7, .inl (y 8, 8, .inr (.inr (.inr (.inr (fun _ => none)))))), (q10, .inl (y 2, 20, .inr (.inr (.inr (.inr (fun _ => none)))))), (q13, .inl (y 7, 40, .inr (.inr (.inr (.inr (fun _ => none)))))), (q22, .inr (1, [.int 0, .int 0])), (q29, .inr (1, [.int 0, .int 0])), (q36, .inr (1, [.int 0, .int 0])), (q44, .inr (2, [.ref a49, .ref a52])), (a49, .inr (3, [.ref a50, .ref a51])), (a50, .inl (y 0, 31, .inl (fillv 1000 31))), (a51, .inl (y 1, 31, .inl (fun _ => 0))), (a52, .inr (3, [.ref a53, .ref a54])), (a53, .inl (y 0, 31, .inl (fillv 1500 31))), (a54, .inl (y 1, 31, .inl (fun _ => 0))), (q57, .inr (2, [.ref a62, .ref a65])), (a62, .inr (3, [.ref a63, .ref a64])), (a63, .inl (y 0, 31, .inl (fillv 1000 31))), (a64, .inl (y 1, 31, .inl (fun _ => 0))), (a65, .inr (3, [.ref a66, .ref a67])), (a66, .inl (y 0, 31, .inl (fillv 1500 31))), (a67, .inl (y 1, 31, .inl (fun _ => 0))), (q70, .inr (2, [.ref a75, .ref a78])), (a75, .inr (3, [.ref a76, .ref a77])), (a76, .inl (y 0, 31, .inl (fillv 1000 31))), (a77, .inl (y 1, 31, .inl (fun _ => 0))), (a78, .inr (3, [.ref a79, .ref a80])), (a79, .inl (y 0, 31, .inl (fillv 1500 31))), (a80, .inl (y 1, 31, .inl (fun _ => 0)))]) eB hi rfl rfl
    obtain ⟨x2, hx2⟩ : ∃ x, ([(h0, .inr (8, [.ref q1, .ref q4, .ref q7, .ref q10, .ref q13, .int 0, .int 0, .int 0, .int 20000, .int 0])), (q1, .inl (y 3, 3, .inr (.inr (.inr (.inr (va_up (va_up (va_up (fun _ => none) 0 (some q22)) 1 (some q29)) 2 (some q36))))))), (q4, .inl (y 4, 3, .inr (.inr (.inr (.inr (va_up (va_up (va_up (fun _ => none) 0 (some q44)) 1 (some q57)) 2 (some q70))))))), (q7, .inl (y 8, 8, .inr (.inr (.inr (.inr (fun _ => none)))))), (q10, .inl (y 2, 20, .inr (.inr (.inr (.inr (fun _ => none)))))), (q13, .inl (y 7, 40, .inr (.inr (.inr (.inr (fun _ => none)))))), (q22, .inr (1, [.int 0, .int 0])), (q29, .inr (1, [.int 0, .int 0])), (q36, .inr (1, [.int 0, .int 0])), (q44, .inr (2, [.ref a49, .ref a52])), (a49, .inr (3, [.ref a50, .ref a51])), (a50, .inl (y 0, 31, .inl (fillv 1000 31))), (a51, .inl (y 1, 31, .inl (fun _ => 0))), (a52, .inr (3, [.ref a53, .ref a54])), (a53, .inl (y 0, 31, .inl (fillv 1500 31))), (a54, .inl (y 1, 31, .inl (fun _ => 0))), (q57, .inr (2, [.ref a62, .ref a65])), (a62, .inr (3, [.ref a63, .ref a64])), (a63, .inl (y 0, 31, .inl (fillv 1000 31))), (a64, .inl (y 1, 31, .inl (fun _ => 0))), (a65, .inr (3, [.ref a66, .ref a67])), (a66, .inl (y 0, 31, .inl (fillv 1500 31))), (a67, .inl (y 1, 31, .inl (fun _ => 0))), (q70, .inr (2, [.ref a75, .ref a78])), (a75, .inr (3, [.ref a76, .ref a77])), (a76, .inl (y 0, 31, .inl (fillv 1000 31))), (a77, .inl (y 1, 31, .inl (fun _ => 0))), (a78, .inr (3, [.ref a79, .ref a80])), (a79, .inl (y 0, 31, .inl (fillv 1500 31))), (a80, .inl (y 1, 31, .inl (fun _ => 0)))] : List (Nat × va_E))[j]? = some (B j, x) := Own.at (L := [(h0, .inr (8, [.ref q1, .ref q4, .ref q7, .ref q10, .ref q13, .int 0, .int 0, .int 0, .int 20000, .int 0])), (q1, .inl (y 3, 3, .inr (.inr (.inr (.inr (va_up (va_up (va_up (fun _ => none) 0 (some q22)) 1 (some q29)) 2 (some q36))))))), (q4, .inl (y 4, 3, .inr (.inr (.inr (.inr (va_up (va_up (va_up (fun _ => none) 0 (some q44)) 1 (some q57)) 2 (some q70))))))), (q7, .inl (y 8, 8, .inr (.inr (.inr (.inr (fun _ => none)))))), (q10, .inl (y 2, 20, .inr (.inr (.inr (.inr (fun _ => none)))))), (q13, .inl (y 7, 40, .inr (.inr (.inr (.inr (fun _ => none)))))), (q22, .inr (1, [.int 0, .int 0])), (q29, .inr (1, [.int 0, .int 0])), (q36, .inr (1, [.int 0, .int 0])), (q44, .inr (2, [.ref a49, .ref a52])), (a49, .inr (3, [.ref a50, .ref a51])), (a50, .inl (y 0, 31, .inl (fillv 1000 31))), (a51, .inl (y 1, 31, .inl (fun _ => 0))), (a52, .inr (3, [.ref a53, .ref a54])), (a53, .inl (y 0, 31, .inl (fillv 1500 31))), (a54, .inl (y 1, 31, .inl (fun _ => 0))), (q57, .inr (2, [.ref a62, .ref a65])), (a62, .inr (3, [.ref a63, .ref a64])), (a63, .inl (y 0, 31, .inl (fillv 1000 31))), (a64, .inl (y 1, 31, .inl (fun _ => 0))), (a65, .inr (3, [.ref a66, .ref a67])), (a66, .inl (y 0, 31, .inl (fillv 1500 31))), (a67, .inl (y 1, 31, .inl (fun _ => 0))), (q70, .inr (2, [.ref a75, .ref a78])), (a75, .inr (3, [.ref a76, .ref a77])), (a76, .inl (y 0, 31, .inl (fillv 1000 31))), (a77, .inl (y 1, 31, .inl (fun _ => 0))), (a78, .inr (3, [.ref a79, .ref a80])), (a79, .inl (y 0, 31, .inl (fillv 1500 31))), (a80, .inl (y 1, 31, .inl (fun _ => 0)))]) eB hj rfl rfl
    rw [← hij] at hx2
    exact hO.1 i j (B i) x1 x2 hx1 hx2
  have hRc : Rc y 0 0 0 0 kap0 (al0 B) f81 := Rc.init hinj
      (by simp only [b0, b1, b2, b3, b4, b5]; exact hO.get (i := 0) rfl)
      (by rw [b1, ← row3 (g := fun e => B (6 + e)) b6 b7 b8]; exact hO.get (i := 1) rfl)
      (by rw [b2, ← row3 (g := fun e => B (9 + 7 * e + 0)) b9 b16 b23]; exact hO.get (i := 2) rfl)
      (by simp only [b3]; exact hO.get (i := 3) rfl)
      (by simp only [b4]; exact hO.get (i := 4) rfl)
      (by simp only [b5]; exact hO.get (i := 5) rfl)
      (all3 (by simp only [b6]; exact hO.get (i := 6) rfl) (by simp only [b7]; exact hO.get (i := 7) rfl) (by simp only [b8]; exact hO.get (i := 8) rfl))
      (all3 (by simp only [b9, b10, b13]; exact hO.get (i := 9) rfl) (by simp only [b16, b17, b20]; exact hO.get (i := 16) rfl) (by simp only [b23, b24, b27]; exact hO.get (i := 23) rfl))
      (all3 (by simp only [b10, b11, b12]; exact hO.get (i := 10) rfl) (by simp only [b17, b18, b19]; exact hO.get (i := 17) rfl) (by simp only [b24, b25, b26]; exact hO.get (i := 24) rfl))
      (all3 (by simp only [b11]; exact hO.get (i := 11) rfl) (by simp only [b18]; exact hO.get (i := 18) rfl) (by simp only [b25]; exact hO.get (i := 25) rfl))
      (all3 (by simp only [b12]; exact hO.get (i := 12) rfl) (by simp only [b19]; exact hO.get (i := 19) rfl) (by simp only [b26]; exact hO.get (i := 26) rfl))
      (all3 (by simp only [b13, b14, b15]; exact hO.get (i := 13) rfl) (by simp only [b20, b21, b22]; exact hO.get (i := 20) rfl) (by simp only [b27, b28, b29]; exact hO.get (i := 27) rfl))
      (all3 (by simp only [b14]; exact hO.get (i := 14) rfl) (by simp only [b21]; exact hO.get (i := 21) rfl) (by simp only [b28]; exact hO.get (i := 28) rfl))
      (all3 (by simp only [b15]; exact hO.get (i := 15) rfl) (by simp only [b22]; exact hO.get (i := 22) rfl) (by simp only [b29]; exact hO.get (i := 29) rfl))
  exact fw_vret hx hb hr hlocks hw (Nat.le_of_ble_eq_true rfl) (Nat.le_of_ble_eq_true rfl) dX8_init_134 (⟨al0 B, b0, hRc⟩)
