/-! base: truth values as ints, guards of the pure functions -/
def bI (b : Bool) : Int32 := if b then 1 else 0
theorem bI_nar (b : Bool) : narrow .boolean (.int (bI b)) = .int (bI b) := by cases b <;> rfl
theorem bI_fit (b : Bool) : fits .boolean (.int (bI b)) = true := by cases b <;> rfl
theorem bI_z {b : Bool} (h : bI b = 0) : ¬ b = true := by
  intro hb
  rw [hb] at h
  exact absurd h (by decide)
theorem bI_nz {b : Bool} (h : ¬ bI b = 0) : b = true := by
  cases b with
  | false => exact absurd rfl h
  | true => rfl
/-- the place i is one of an array of n -/
def gI (i : Int32) (n : Nat) : Bool := decide (¬ (i < 0 ∨ n ≤ i.toNatClampNeg))
theorem gI_in {i : Int32} {n : Nat} (h : gI i n = true) : vp_in i n := (of_decide_eq_true h : ¬ (i < 0 ∨ n ≤ i.toNatClampNeg))
theorem gGuard {α : Type} {b : Bool} {x : Option α} {r : α} (h : (if b = true then x else none) = some r) : b = true ∧ x = some r := by
  cases b with
  | false => exact absurd h (by simp)
  | true => exact ⟨rfl, by simpa using h⟩
theorem gIfP {α : Type} {c : Prop} [Decidable c] {a b : α} {r : α} (hc : c) (h : (if c then a else b) = r) : a = r := by rw [if_pos hc] at h; exact h
theorem gIfN {α : Type} {c : Prop} [Decidable c] {a b : α} {r : α} (hc : ¬ c) (h : (if c then a else b) = r) : b = r := by rw [if_neg hc] at h; exact h
/-- on, if the call before answered; a throw goes on out -/
def gE {α β : Type} (o : Option (Except String α)) (k : α → Option (Except String β)) : Option (Except String β) := match o with
  | none => none
  | some (.error E) => some (.error E)
  | some (.ok y) => k y
theorem gE_of {α β : Type} {o : Option (Except String α)} {k : α → Option (Except String β)} {r : Except String β} (h : gE o k = some r) : (∃ E, o = some (.error E) ∧ r = .error E) ∨ ∃ y, o = some (.ok y) ∧ k y = some r := by
  cases o with
  | none => exact absurd h (by simp [gE])
  | some x =>
    cases x with
    | error E => exact Or.inl ⟨E, rfl, (Option.some.inj h).symm⟩
    | ok y => exact Or.inr ⟨y, rfl, h⟩
/-- words that a caller must hand on: links to private members of a nest mate, what the exceptions are -/
def gN (U : State) : Prop := va_Nw (.methodLinkNest RX4 9 yX2_init "RedoHeap") U ∧ va_Nw (.methodLinkNest RX4 27 yX1_init "RedoHeap") U ∧ va_Nw (.methodLinkNest RX1 34 yX4_isWord "RedoHeap") U ∧ va_Nw (.methodLinkNest RX2 45 yX4_isWord "RedoHeap") U ∧ va_Nw (.castable "java/lang/IllegalStateException" "java/lang/IllegalStateException") U ∧ va_Nw (.castable "java/lang/IllegalArgumentException" "java/lang/IllegalArgumentException") U ∧ va_Nw (.castable "java/lang/IndexOutOfBoundsException" "java/lang/IndexOutOfBoundsException") U ∧ va_Nw (.declares (Bundle.initS "java/lang/RuntimeException")) U ∧ va_Nw (.declares (Bundle.initS "java/lang/Exception")) U ∧ va_Nw (.declares (Bundle.initS "java/lang/Throwable")) U ∧ va_Nc "java/lang/IllegalArgumentException" "java/lang/IllegalStateException" U ∧ va_Nc "java/lang/IndexOutOfBoundsException" "java/lang/IllegalStateException" U
theorem gN.warm {s U : State} (hW : s.WarmedH U.vm) (h : gN s) : gN U := ⟨va_Nw.warmM hW h.1, va_Nw.warmM hW h.2.1, va_Nw.warmM hW h.2.2.1, va_Nw.warmM hW h.2.2.2.1, va_Nw.warmC hW h.2.2.2.2.1, va_Nw.warmC hW h.2.2.2.2.2.1, va_Nw.warmC hW h.2.2.2.2.2.2.1, va_Nw.warmD hW h.2.2.2.2.2.2.2.1, va_Nw.warmD hW h.2.2.2.2.2.2.2.2.1, va_Nw.warmD hW h.2.2.2.2.2.2.2.2.2.1, va_Nc.moved hW.alike h.2.2.2.2.2.2.2.2.2.2.1, va_Nc.moved hW.alike h.2.2.2.2.2.2.2.2.2.2.2⟩
theorem gN.same {s U : State} (hv : s.vm = U.vm) (h : gN s) : gN U := ⟨va_Nw.same rfl hv h.1, va_Nw.same rfl hv h.2.1, va_Nw.same rfl hv h.2.2.1, va_Nw.same rfl hv h.2.2.2.1, va_Nw.same rfl hv h.2.2.2.2.1, va_Nw.same rfl hv h.2.2.2.2.2.1, va_Nw.same rfl hv h.2.2.2.2.2.2.1, va_Nw.same rfl hv h.2.2.2.2.2.2.2.1, va_Nw.same rfl hv h.2.2.2.2.2.2.2.2.1, va_Nw.same rfl hv h.2.2.2.2.2.2.2.2.2.1, va_Nc.moved (hv ▸ Vm.Alike.refl s.vm) h.2.2.2.2.2.2.2.2.2.2.1, va_Nc.moved (hv ▸ Vm.Alike.refl s.vm) h.2.2.2.2.2.2.2.2.2.2.2⟩
def gBad : List Cond := [.castable "java/lang/IllegalStateException" "java/lang/IllegalStateException", .castable "java/lang/IllegalArgumentException" "java/lang/IllegalArgumentException", .castable "java/lang/IndexOutOfBoundsException" "java/lang/IndexOutOfBoundsException", .declares (Bundle.initS "java/lang/RuntimeException"), .declares (Bundle.initS "java/lang/Exception"), .declares (Bundle.initS "java/lang/Throwable")]
theorem gN.bad {args : Array Value} {s : State} (h : gN s) : ∀ w ∈ gBad, w.before args s = true := vx_c (va_Nw.use rfl h.2.2.2.2.1) (vx_c (va_Nw.use rfl h.2.2.2.2.2.1) (vx_c (va_Nw.use rfl h.2.2.2.2.2.2.1) (vx_c (va_Nw.use rfl h.2.2.2.2.2.2.2.1) (vx_c (va_Nw.use rfl h.2.2.2.2.2.2.2.2.1) (vx_c (va_Nw.use rfl h.2.2.2.2.2.2.2.2.2.1) (vx_n))))))
theorem gE_ok {α β : Type} {o : Option (Except String α)} {k : α → Option (Except String β)} {r : β} (h : gE o k = some (.ok r)) : ∃ y, o = some (.ok y) ∧ k y = some (.ok r) := by
  rcases gE_of h with ⟨E, -, h2⟩ | h2
  · cases h2
  · exact h2
theorem gE_er {α β : Type} {o : Option (Except String α)} {k : α → Option (Except String β)} {E : String} (h : gE o k = some (.error E)) : o = some (.error E) ∨ ∃ y, o = some (.ok y) ∧ k y = some (.error E) := by
  rcases gE_of h with ⟨E', h1, h2⟩ | h2
  · cases h2
    exact Or.inl h1
  · exact Or.inr h2
