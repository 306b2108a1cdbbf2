abbrev vwCl : List vw_C := [(RX0, TX0, 4), (RX1, TX1, 2), (RX2, TX2, 2), (RX3, TX3, 2), (RX4, TX4, 3), (RX5, TX5, 4), (RX6, TX6, 3), (RX7, TX7, 8), (RX8, TX8, 10)]
/-! FUNCTIONAL WORLDS: a world is a partial function from addresses to contents; every contract carries the whole world of its side -/
abbrev fw_F : Type := Nat → Option va_E
def fw_P (D : va_G) (A : Nat → Prop) (f : fw_F) (H : Heap) : Prop := (∀ a e, f a = some e → va_at D vwCl (a, e) H) ∧ ∀ a e, f a = some e → A a
def fw_up (f : fw_F) (a : Nat) (e : va_E) : fw_F := fun j => if j = a then some e else f j
theorem fw_up_s {f : fw_F} {a : Nat} {e : va_E} : fw_up f a e a = some e := if_pos rfl
theorem fw_up_n {f : fw_F} {a b : Nat} {e : va_E} (h : b ≠ a) : fw_up f a e b = f b := if_neg h
theorem fw_up_k {f : fw_F} {a b : Nat} {e e2 : va_E} (h : f b = some e2) (hn : f a = none) : fw_up f a e b = some e2 := by
  rw [fw_up_n]
  · exact h
  · intro q
    rw [q, hn] at h
    cases h
/-- the world as a list, of the addresses below n -/
def fw_L (f : fw_F) : Nat → va_W
  | 0 => []
  | n + 1 => match f n with
    | some e => fw_L f n ++ [(n, e)]
    | none => fw_L f n
theorem fw_L_mem {f : fw_F} : ∀ (n : Nat) (q : Nat × va_E), q ∈ fw_L f n ↔ q.1 < n ∧ f q.1 = some q.2 := by
  intro n
  induction n with
  | zero => intro q; simp [fw_L]
  | succ n ih =>
    intro q
    obtain ⟨a, e⟩ := q
    unfold fw_L
    cases h : f n with
    | none =>
      simp only [ih]
      constructor
      · rintro ⟨h1, h2⟩
        exact ⟨by omega, h2⟩
      · rintro ⟨h1, h2⟩
        refine ⟨?_, h2⟩
        rcases Nat.lt_or_ge a n with z | z
        · exact z
        · have : a = n := by omega
          subst this
          rw [h] at h2
          cases h2
    | some e0 =>
      simp only [List.mem_append, ih, List.mem_singleton, Prod.mk.injEq]
      constructor
      · rintro (⟨h1, h2⟩ | ⟨h1, h2⟩)
        · exact ⟨by omega, h2⟩
        · subst h1; subst h2
          exact ⟨by omega, h⟩
      · rintro ⟨h1, h2⟩
        rcases Nat.lt_or_ge a n with z | z
        · exact Or.inl ⟨z, h2⟩
        · have : a = n := by omega
          subst this
          rw [h] at h2
          cases h2
          exact Or.inr ⟨rfl, rfl⟩
theorem fw_L_nd {f : fw_F} : ∀ (n i j : Nat) (p q : Nat × va_E), (fw_L f n)[i]? = some p → (fw_L f n)[j]? = some q → p.1 = q.1 → i = j := by
  intro n
  induction n with
  | zero => intro i j p q h; simp [fw_L] at h
  | succ n ih =>
    intro i j p q hi hj hpq
    unfold fw_L at hi hj
    cases h : f n with
    | none => rw [h] at hi hj; exact ih i j p q hi hj hpq
    | some e0 =>
      rw [h] at hi hj
      have key : ∀ (k : Nat) (r : Nat × va_E), (fw_L f n ++ [(n, e0)])[k]? = some r → ((fw_L f n)[k]? = some r ∧ r.1 < n) ∨ (k = (fw_L f n).length ∧ r.1 = n) := by
        intro k r hk
        by_cases hl : k < (fw_L f n).length
        · rw [List.getElem?_append_left hl] at hk
          exact Or.inl ⟨hk, ((fw_L_mem n r).mp (List.mem_of_getElem? hk)).1⟩
        · rw [List.getElem?_append_right (by omega)] at hk
          have hz : k - (fw_L f n).length < 1 := (List.getElem?_eq_some_iff.mp hk).1
          have hk0 : k = (fw_L f n).length := by omega
          subst hk0
          rw [Nat.sub_self] at hk
          cases hk
          exact Or.inr ⟨rfl, rfl⟩
      rcases key i p hi with ⟨h1, l1⟩ | ⟨h1, l1⟩ <;> rcases key j q hj with ⟨h2, l2⟩ | ⟨h2, l2⟩
      · exact ih i j p q h1 h2 hpq
      · omega
      · omega
      · omega
theorem fw_P.lt {D : va_G} {A : Nat → Prop} {f : fw_F} {H : Heap} (h : fw_P D A f H) {a : Nat} {e : va_E} (hf : f a = some e) : a < H.size := (h.1 a e hf).lt
theorem fw_P.lP {D : va_G} {A : Nat → Prop} {f : fw_F} {H : Heap} (h : fw_P D A f H) : va_P D vwCl (fw_L f H.size) H := by
  intro k q hk
  obtain ⟨a, e⟩ := q
  exact h.1 a e ((fw_L_mem _ (a, e)).mp (List.mem_of_getElem? hk)).2
theorem fw_P.lD {D : va_G} {A : Nat → Prop} {f : fw_F} {H : Heap} (h : fw_P D A f H) : va_D A (fw_L f H.size) := ⟨fw_L_nd _, fun k q hk => h.2 q.1 q.2 ((fw_L_mem _ q).mp (List.mem_of_getElem? hk)).2⟩
theorem fw_P.ix {D : va_G} {A : Nat → Prop} {f : fw_F} {H : Heap} (h : fw_P D A f H) {a : Nat} {e : va_E} (hf : f a = some e) : ∃ k : Nat, (fw_L f H.size)[k]? = some (a, e) := List.getElem?_of_mem ((fw_L_mem _ (a, e)).mpr ⟨h.lt hf, hf⟩)
theorem fw_P.one {D : va_G} {A : Nat → Prop} {f : fw_F} {H : Heap} (h : fw_P D A f H) {a : Nat} {e : va_E} (hf : f a = some e) : va_P D vwCl [(a, e)] H := by
  intro k q hk
  have hz : k < 1 := (List.getElem?_eq_some_iff.mp hk).1
  rw [show k = 0 by omega] at hk
  cases hk
  exact h.1 a e hf
theorem fw_P.st {D : va_G} {A : Nat → Prop} {f : fw_F} {H H1 : Heap} (h : fw_P D A f H) {a k : Nat} {e0 e : va_E} (hk : (fw_L f H.size)[k]? = some (a, e0)) (h1 : va_P D vwCl ((fw_L f H.size).set k (a, e)) H1) : fw_P D A (fw_up f a e) H1 := by
  have hf0 : f a = some e0 := ((fw_L_mem _ (a, e0)).mp (List.mem_of_getElem? hk)).2
  have hl := (List.getElem?_eq_some_iff.mp hk).1
  refine ⟨fun b e2 hb => ?_, fun b e2 hb => ?_⟩
  · by_cases hba : b = a
    · subst hba
      rw [fw_up_s] at hb
      cases hb
      exact h1 k (b, e) (by rw [List.getElem?_set_self hl])
    · rw [fw_up_n hba] at hb
      obtain ⟨j, hj⟩ := h.ix hb
      refine h1 j (b, e2) ?_
      rw [List.getElem?_set_ne]
      · exact hj
      · intro z
        subst z
        rw [hk] at hj
        cases hj
        exact hba rfl
  · by_cases hba : b = a
    · subst hba
      exact h.2 b e0 hf0
    · rw [fw_up_n hba] at hb
      exact h.2 b e2 hb
theorem fw_P.ps {D : va_G} {A : Nat → Prop} {f : fw_F} {H H1 : Heap} (h : fw_P D A f H) {a : Nat} {e : va_E} (h1 : va_P D vwCl (fw_L f H.size ++ [(a, e)]) H1) (hD : va_D A (fw_L f H.size ++ [(a, e)])) : fw_P D A (fw_up f a e) H1 ∧ f a = none := by
  have hlast : (fw_L f H.size ++ [(a, e)])[(fw_L f H.size).length]? = some (a, e) := by
    rw [List.getElem?_append_right (Nat.le_refl _), Nat.sub_self]
    rfl
  have hn : f a = none := by
    cases hfa : f a with
    | none => rfl
    | some e2 =>
      obtain ⟨j, hj⟩ := h.ix hfa
      have hjl := (List.getElem?_eq_some_iff.mp hj).1
      have hj2 : (fw_L f H.size ++ [(a, e)])[j]? = some (a, e2) := by rw [List.getElem?_append_left hjl]; exact hj
      have := hD.1 _ _ _ _ hj2 hlast rfl
      omega
  refine ⟨⟨fun b e2 hb => ?_, fun b e2 hb => ?_⟩, hn⟩
  · by_cases hba : b = a
    · subst hba
      rw [fw_up_s] at hb
      cases hb
      exact h1 _ _ hlast
    · rw [fw_up_n hba] at hb
      obtain ⟨j, hj⟩ := h.ix hb
      refine h1 j (b, e2) ?_
      rw [List.getElem?_append_left (List.getElem?_eq_some_iff.mp hj).1]
      exact hj
  · by_cases hba : b = a
    · subst hba
      exact hD.2 _ _ hlast
    · rw [fw_up_n hba] at hb
      exact h.2 b e2 hb
theorem fw_P.kept {D : va_G} {A : Nat → Prop} {f : fw_F} {H H1 : Heap} (h : fw_P D A f H) (hq : ∀ a e, f a = some e → H1[a]? = H[a]?) : fw_P D A f H1 := ⟨fun a e hf => (h.1 a e hf).kept (hq a e hf), h.2⟩
/-- the same contents, said otherwise -/
theorem fw_P.cg {D : va_G} {A : Nat → Prop} {f g : fw_F} {H : Heap} (h : fw_P D A f H) (hg : ∀ a, g a = f a) : fw_P D A g H := ⟨fun a e ha => h.1 a e (by rw [← hg]; exact ha), fun a e ha => h.2 a e (by rw [← hg]; exact ha)⟩
def fw_S (D : va_G) (A : Nat → Prop) (H0 : Heap) (f : fw_F) (H : Heap) (locs : List Loc) : Prop := fw_P D A f H ∧ va_S A H0 H locs
/-! what every contract takes of the machine's tables; y: the array classes, in this order -/
abbrev tysC (y : Nat → ClassId) : List (ClassId × FieldType) := [(y 0, .int), (y 1, .boolean), (y 2, .object RX0), (y 3, .object RX1), (y 4, .object RX2), (y 5, .object RX4), (y 6, .object RX5), (y 7, .object RX6), (y 8, .object RX7)]
abbrev nIOB : String := "java/lang/IndexOutOfBoundsException"
abbrev nIAE : String := "java/lang/IllegalArgumentException"
abbrev nISE : String := "java/lang/IllegalStateException"
abbrev nRTE : String := "java/lang/RuntimeException"
abbrev nEXC : String := "java/lang/Exception"
abbrev dNW : List Cond := [.declares (Bundle.initS nRTE), .declares (Bundle.initS nEXC), .declares (Bundle.initS Bundle.tN), .castable nIOB nIOB, .castable nIAE nIAE, .castable nISE nISE]
abbrev nestW : List (Nat × MethodName) := [(55, yX1_init), (56, yX2_init)]
abbrev strW : List (Nat × String) := [(127, "no such sheet has come"), (140, "no more orders"), (145, "no such order"), (150, "no more transfers"), (158, "no such transfer"), (164, "the transfer has bounced"), (182, "all weeks are closed"), (202, "no such worker"), (204, "no such employer"), (209, "no such rank"), (213, "an argument is out of range"), (63, "no more workers")]
abbrev aoW : List String := [RX0, RX1, RX2, RX4, RX5, RX6, RX7]
def fw_T (D : va_G) (y : Nat → ClassId) (sa : Nat → Nat) (U : State) : Prop :=
  va_K D vwCl (tysC y) U ∧ (∀ c ∈ aoW, va_AO c U) ∧ (∀ w ∈ dNW, va_Nw w U) ∧ (∀ q ∈ nestW, va_Nw (.methodLinkNest RX8 q.1 q.2 RX8) U) ∧
  (∀ q ∈ strW, vk_R RX8 q.1 q.2 (sa q.1) U) ∧ va_Nc nIAE nIOB U ∧ va_Nc nISE nIOB U ∧ va_Nc nISE nIAE U
theorem fw_T.warm {D : va_G} {y : Nat → ClassId} {sa : Nat → Nat} {s U : State} (hW : s.WarmedH U.vm) (h : fw_T D y sa s) : fw_T D y sa U := by
  obtain ⟨h1, h2, h3, h4, h5, h6, h7, h8⟩ := h
  refine ⟨h1.moved hW.alike, fun c hc => (h2 c hc).moved hW.alike, fun w hw => ?_, fun q hq => (h4 q hq).warmM hW, fun q hq => (h5 q hq).warm hW, h6.moved hW.alike, h7.moved hW.alike, h8.moved hW.alike⟩
  have h := h3 w hw
  simp only [dNW, List.mem_cons, List.not_mem_nil, or_false] at hw
  rcases hw with rfl | rfl | rfl | rfl | rfl | rfl
  · exact h.warmD hW
  · exact h.warmD hW
  · exact h.warmD hW
  · exact h.warmC hW
  · exact h.warmC hW
  · exact h.warmC hW
def fw_E (D : va_G) (A : Nat → Prop) (y : Nat → ClassId) (sa : Nat → Nat) (U : State) : Prop :=
  fw_T D y sa U ∧ (∀ q, U.heap.size ≤ q → A q) ∧ vx_Zq Bundle.tN "UNASSIGNED_STACK" Bundle.steD A U U.heap ∧ vx_Zq Bundle.tN "SUPPRESSED_SENTINEL" Bundle.listD A U U.heap
theorem fw_E.moved {D : va_G} {A : Nat → Prop} {y : Nat → ClassId} {sa : Nat → Nat} {s U : State} {H : Heap} {locs : List Loc} (h : fw_E D A y sa s) (hS : va_S A s.heap H locs) (hU : U.heap = H) (hW : s.WarmedH U.vm) : fw_E D A y sa U := by
  obtain ⟨h1, h2, h3, h4⟩ := h
  refine ⟨h1.warm hW, fun q hq => h2 q ?_, ?_, ?_⟩
  · rw [hU] at hq
    exact Nat.le_trans hS.1 hq
  · rw [hU]
    exact (h3.kept hS.2.1).moved hW.alike
  · rw [hU]
    exact (h4.kept hS.2.1).moved hW.alike
/-- a smaller part of the heap that may change -/
theorem fw_E.narrow {D : va_G} {A B : Nat → Prop} {y : Nat → ClassId} {sa : Nat → Nat} {U : State} (h : fw_E D A y sa U) (hBA : ∀ q, B q → A q) (hB : ∀ q, U.heap.size ≤ q → B q) : fw_E D B y sa U := ⟨h.1, hB, h.2.2.1.narrow hBA, h.2.2.2.narrow hBA⟩
abbrev cPc (D : va_G) (A : Nat → Prop) (y : Nat → ClassId) (sa : Nat → Nat) (f : fw_F) (av : List Value) : Array Value → State → Prop := va_Pc av (fun U => fw_P D A f U.heap ∧ fw_E D A y sa U)
abbrev cQi (D : va_G) (A : Nat → Prop) (post : Int32 → fw_F → Prop) : Array Value → State → Outcome → State → Prop := va_Qi post (fun (f : fw_F) t => fw_P D A f t.heap) A
abbrev cQv (D : va_G) (A : Nat → Prop) (post : fw_F → Prop) : Array Value → State → Outcome → State → Prop := va_Qv post (fun (f : fw_F) t => fw_P D A f t.heap) A
abbrev cQq (D : va_G) (A : Nat → Prop) (post : Option Nat → fw_F → Prop) : Array Value → State → Outcome → State → Prop := va_Qq post (fun (f : fw_F) t => fw_P D A f t.heap) A
abbrev cX (D : va_G) (A : Nat → Prop) (f : fw_F) (thr : String → Prop) : String → State → State → Prop := vx_X (fun (_ : Unit) => True) (fun E (_ : Unit) t => thr E ∧ fw_P D A f t.heap) A
theorem cPc_blind {D : va_G} {A : Nat → Prop} {y : Nat → ClassId} {sa : Nat → Nat} {f : fw_F} {av : List Value} : FrameBlind (cPc D A y sa f av) := by
  intro a U g mk q
  obtain ⟨q0, q1, q2⟩ := q
  exact ⟨q0, q1, fw_E.moved (s := U) (U := U.calling g mk a) q2 (va_S.rf (A := A)) rfl (State.WarmedH.refl U)⟩
