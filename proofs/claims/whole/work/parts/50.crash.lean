/-! PURE SIDE 11: writes one behind another; what a loss of power may leave -/
/-- the words when the writes l have come -/
def app (m : Nat → Int64) : List (Nat × Int64) → Nat → Int64
  | [] => m
  | (k, x) :: l => app (vp_updL m k x) l
theorem app_app (m : Nat → Int64) : ∀ (a b : List (Nat × Int64)), app m (a ++ b) = app (app m a) b := by
  intro a
  induction a generalizing m with
  | nil => intro b; rfl
  | cons e a ih => intro b; exact ih (vp_updL m e.1 e.2) b
theorem app_other {m : Nat → Int64} {j : Nat} : ∀ {l : List (Nat × Int64)}, (∀ e ∈ l, e.1 ≠ j) → app m l j = m j := by
  intro l
  induction l generalizing m with
  | nil => intro _; rfl
  | cons e l ih =>
    intro h
    show app (vp_updL m e.1 e.2) l j = m j
    rw [ih (fun x hx => h x (List.mem_cons_of_mem _ hx)), pk_uLn (fun q => h e List.mem_cons_self q.symm)]
def sWrites : DT → List (Nat × Int64) → Bool × DT
  | d, [] => (true, d)
  | d, (k, x) :: l => if (sWrite d k x).1 = true then sWrites (sWrite d k x).2 l else (false, (sWrite d k x).2)
theorem sWrites_app : ∀ (a b : List (Nat × Int64)) (d : DT), sWrites d (a ++ b) = if (sWrites d a).1 = true then sWrites (sWrites d a).2 b else (false, (sWrites d a).2) := by
  intro a
  induction a with
  | nil => intro b d; exact (if_pos rfl).symm
  | cons e a ih =>
    intro b d
    show (if (sWrite d e.1 e.2).1 = true then sWrites (sWrite d e.1 e.2).2 (a ++ b) else (false, (sWrite d e.1 e.2).2)) = _
    have h1 : sWrites d (e :: a) = if (sWrite d e.1 e.2).1 = true then sWrites (sWrite d e.1 e.2).2 a else (false, (sWrite d e.1 e.2).2) := rfl
    rw [h1]
    by_cases h : (sWrite d e.1 e.2).1 = true
    · rw [if_pos h, if_pos h]
      exact ih b _
    · rw [if_neg h, if_neg h]
      exact (if_neg Bool.false_ne_true).symm
/-- what waits is what the words have more than the settled ones -/
def dinv (d : DT) (w : Nat) : Prop := d.2.1 = stl d.2.2.1 d.2.2.2.1 d.1 w
/-- in every state that a loss of power may leave, P -/
def Crash (d : DT) (w : Nat) (P : (Nat → Int64) → Prop) : Prop := ∀ k, k ≤ w → P (stl d.2.2.1 d.2.2.2.1 d.1 k)
def OnD (d : DT) (w : Nat) (P : (Nat → Int64) → Prop) : Prop := dok d w ∧ d.2.2.2.2.2.1 = true ∧ dinv d w ∧ Crash d w P
def OffD (d : DT) (P : (Nat → Int64) → Prop) : Prop := dok d 0 ∧ d.2.2.2.2.2.1 = false ∧ dinv d 0 ∧ P d.2.1
theorem stl_congr {wp wp' : Nat → Int32} {wv wv' : Nat → Int64} {st : Nat → Int64} : ∀ n, (∀ j, j < n → wp' j = wp j ∧ wv' j = wv j) → stl wp' wv' st n = stl wp wv st n := by
  intro n
  induction n with
  | zero => intro _; rfl
  | succ n ih =>
    intro h
    show vp_updL (stl wp' wv' st n) (wp' n).toNatClampNeg (wv' n) = vp_updL (stl wp wv st n) (wp n).toNatClampNeg (wv n)
    rw [ih (fun j hj => h j (by omega)), (h n (by omega)).1, (h n (by omega)).2]
theorem stl_high {wp : Nat → Int32} {wv : Nat → Int64} {st : Nat → Int64} {j : Nat} (hj : 1024 ≤ j) : ∀ n, wok wp n → stl wp wv st n j = st j := by
  intro n
  induction n with
  | zero => intro _; rfl
  | succ n ih =>
    intro h
    obtain ⟨k, hk, e⟩ := h n (by omega)
    show vp_updL (stl wp wv st n) (wp n).toNatClampNeg (wv n) j = st j
    rw [e, clN (by omega), pk_uLn (by omega)]
    exact ih (fun i hi => h i (by omega))
theorem sWrite_on {d : DT} {k : Nat} {x : Int64} (h : (sWrite d k x).1 = true) : ∃ u, sWrite d k x = (true, sPut d k x u) := by
  unfold sWrite at h ⊢
  by_cases h1 : d.2.2.2.2.2.2.1 ≤ 0
  · exact ⟨_, if_pos h1⟩
  · rw [if_neg h1] at h ⊢
    by_cases h2 : d.2.2.2.2.2.2.1 - 1 = 0
    · rw [if_pos h2] at h
      cases h
    · exact ⟨_, if_neg h2⟩
theorem sWrite_off {d : DT} {k : Nat} {x : Int64} (h : ¬ (sWrite d k x).1 = true) : ∃ u, sWrite d k x = (false, sOff (sPut d k x u) d.2.2.2.2.2.2.2.1) := by
  unfold sWrite at h ⊢
  by_cases h1 : d.2.2.2.2.2.2.1 ≤ 0
  · rw [if_pos h1] at h
    exact absurd rfl h
  · rw [if_neg h1] at h ⊢
    by_cases h2 : d.2.2.2.2.2.2.1 - 1 = 0
    · exact ⟨_, if_pos h2⟩
    · rw [if_neg h2] at h
      exact absurd rfl h
theorem put_stl {d : DT} {w k : Nat} {x : Int64} {u : Int32} (h : dok d w) (hw : w < 2 ^ 31) : ∀ n, n ≤ w → stl (sPut d k x u).2.2.1 (sPut d k x u).2.2.2.1 (sPut d k x u).1 n = stl d.2.2.1 d.2.2.2.1 d.1 n := fun n hn => by
  refine stl_congr n (fun j hj => ?_)
  have e : d.2.2.2.2.1.toNatClampNeg = w := by rw [h.1, clN hw]
  refine ⟨?_, ?_⟩
  · show upd d.2.2.1 d.2.2.2.2.1.toNatClampNeg (nI k) j = _
    rw [e, pk_un (by omega)]
  · show vp_updL d.2.2.2.1 d.2.2.2.2.1.toNatClampNeg x j = _
    rw [e, pk_uLn (by omega)]
theorem put_stl1 {d : DT} {w k : Nat} {x : Int64} {u : Int32} (h : dok d w) (hw : w < 2 ^ 31) (hk : k < 1024) : stl (sPut d k x u).2.2.1 (sPut d k x u).2.2.2.1 (sPut d k x u).1 (w + 1) = vp_updL (stl d.2.2.1 d.2.2.2.1 d.1 w) k x := by
  have e : d.2.2.2.2.1.toNatClampNeg = w := by rw [h.1, clN hw]
  show vp_updL (stl (sPut d k x u).2.2.1 (sPut d k x u).2.2.2.1 (sPut d k x u).1 w) (upd d.2.2.1 d.2.2.2.2.1.toNatClampNeg (nI k) w).toNatClampNeg (vp_updL d.2.2.2.1 d.2.2.2.2.1.toNatClampNeg x w) = _
  rw [put_stl h hw w (Nat.le_refl _), e, pk_us, pk_uLs, clN (by omega)]
section
variable {P : (Nat → Int64) → Prop}
theorem put_on {d : DT} {w k : Nat} {x : Int64} {u : Int32} (h : OnD d w P) (hw : w < 320) (hk : k < 1024) (hp : P (vp_updL d.2.1 k x)) : OnD (sPut d k x u) (w + 1) P := by
  obtain ⟨h1, h2, h3, h4⟩ := h
  have e : vp_updL d.2.1 k x = stl (sPut d k x u).2.2.1 (sPut d k x u).2.2.2.1 (sPut d k x u).1 (w + 1) := by
    rw [put_stl1 h1 (by omega) hk, ← h3]
  refine ⟨dok_put d h1 hw hk x u, h2, e, fun j hj => ?_⟩
  by_cases q : j ≤ w
  · rw [put_stl h1 (by omega) j q]
    exact h4 j q
  · rw [show j = w + 1 by omega, ← e]
    exact hp
theorem off_of {d : DT} {w : Nat} {k : Int32} (h : OnD d w P) (hw : w ≤ 320) (hk : 0 ≤ k) : OffD (sOff d k) P := by
  obtain ⟨h1, h2, h3, h4⟩ := h
  obtain ⟨j, hj, ej⟩ := kept_of h1 hw hk
  have hs : (sOff d k).1 = stl d.2.2.1 d.2.2.2.1 d.1 j := by
    unfold sOff
    rw [ej, clN (by omega)]
    rfl
  have hn : (sOff d k).2.1 = stl d.2.2.1 d.2.2.2.1 d.1 j := by
    unfold sOff
    rw [ej, clN (by omega)]
    show upto (stl d.2.2.1 d.2.2.2.1 d.1 j) d.2.1 1024 = _
    funext i
    unfold upto
    by_cases q : i < 1024
    · rw [if_pos q]
    · rw [if_neg q, h3, stl_high (by omega) w h1.2.1, stl_high (by omega) j (fun z hz => h1.2.1 z (by omega))]
  refine ⟨dok_off d h1 k, rfl, ?_, ?_⟩
  · show (sOff d k).2.1 = (sOff d k).1
    rw [hs, hn]
  · rw [hn]
    exact h4 j hj
theorem write_spec {d : DT} {w k : Nat} {x : Int64} (h : OnD d w P) (hw : w < 320) (hk : k < 1024) (hp : P (vp_updL d.2.1 k x)) : ((sWrite d k x).1 = true ∧ OnD (sWrite d k x).2 (w + 1) P ∧ (sWrite d k x).2.2.1 = vp_updL d.2.1 k x) ∨ ((sWrite d k x).1 = false ∧ OffD (sWrite d k x).2 P) := by
  by_cases q : (sWrite d k x).1 = true
  · obtain ⟨u, e⟩ := sWrite_on q
    rw [e]
    exact Or.inl ⟨rfl, put_on h hw hk hp, rfl⟩
  · obtain ⟨u, e⟩ := sWrite_off q
    rw [e]
    exact Or.inr ⟨rfl, off_of (put_on h hw hk hp) (by omega) h.1.2.2⟩
/-- WRITES: every state between keeps P -/
theorem writes_spec : ∀ (l : List (Nat × Int64)) (d : DT) (w : Nat), OnD d w P → (∀ e ∈ l, e.1 < 1024) → w + l.length ≤ 320 → (∀ i, i ≤ l.length → P (app d.2.1 (l.take i))) → ((sWrites d l).1 = true ∧ OnD (sWrites d l).2 (w + l.length) P ∧ (sWrites d l).2.2.1 = app d.2.1 l) ∨ ((sWrites d l).1 = false ∧ OffD (sWrites d l).2 P) := by
  intro l
  induction l with
  | nil => intro d w h _ _ _; exact Or.inl ⟨rfl, h, rfl⟩
  | cons e l ih =>
    obtain ⟨k, x⟩ := e
    intro d w h hk hw hp
    simp only [List.length_cons] at hw hp
    have h1 := write_spec (k := k) (x := x) h (by omega) (hk (k, x) List.mem_cons_self) (hp 1 (by omega))
    have hs : sWrites d ((k, x) :: l) = if (sWrite d k x).1 = true then sWrites (sWrite d k x).2 l else (false, (sWrite d k x).2) := rfl
    rcases h1 with ⟨a1, a2, a3⟩ | ⟨a1, a2⟩
    · rw [hs, if_pos a1]
      have := ih (sWrite d k x).2 (w + 1) a2 (fun e he => hk e (List.mem_cons_of_mem _ he)) (by omega) (fun i hi => by
        have := hp (i + 1) (by omega)
        rw [a3]
        exact this)
      rw [a3] at this
      rw [show w + ((k, x) :: l).length = w + 1 + l.length by simp only [List.length_cons]; omega]
      exact this
    · rw [hs, if_neg (by rw [a1]; decide)]
      exact Or.inr ⟨rfl, a2⟩
theorem sync_on {d : DT} {w : Nat} (h : OnD d w P) (hw : w ≤ 320) : OnD (sSync d) 0 P ∧ (sSync d).2.1 = d.2.1 := by
  obtain ⟨h1, h2, h3, h4⟩ := h
  have e : (sSync d).1 = d.2.1 := by
    unfold sSync
    rw [h1.1, clN (by omega)]
    exact h3.symm
  refine ⟨⟨dok_sync d h1, h2, e.symm, fun k hk => ?_⟩, rfl⟩
  rw [show k = 0 by omega]
  show P (sSync d).1
  rw [e, h3]
  exact h4 w (Nat.le_refl _)
theorem OnD.mono {Q : (Nat → Int64) → Prop} {d : DT} {w : Nat} (h : OnD d w P) (hq : ∀ m, P m → Q m) : OnD d w Q := ⟨h.1, h.2.1, h.2.2.1, fun k hk => hq _ (h.2.2.2 k hk)⟩
theorem OffD.mono {Q : (Nat → Int64) → Prop} {d : DT} (h : OffD d P) (hq : ∀ m, P m → Q m) : OffD d Q := ⟨h.1, h.2.1, h.2.2.1, hq _ h.2.2.2⟩
end
