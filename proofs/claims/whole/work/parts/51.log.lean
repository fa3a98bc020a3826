/-! PURE SIDE 12: the log: commits that lie in it, how each side finds them -/
/-- a commit: its changes, its number -/
abbrev Com : Type := List (Nat × Int64) × Nat
def csz (c : Com) : Nat := 2 + 2 * c.1.length
def lsz : List Com → Nat
  | [] => 0
  | c :: cs => csz c + lsz cs
def flat : List Com → List (Nat × Int64)
  | [] => []
  | c :: cs => c.1 ++ flat cs
def entOk (c : Com) : Prop := 1 ≤ c.1.length ∧ ∀ e ∈ c.1, e.1 < 1024 ∧ (e.1 = 1 ∨ 176 ≤ e.1)
def EntAt (m : Nat → Int64) : Nat → List (Nat × Int64) → Prop
  | _, [] => True
  | p, e :: l => m p = lN e.1 ∧ m (p + 1) = e.2 ∧ EntAt m (p + 2) l
def ComAt (m : Nat → Int64) (g p : Nat) (c : Com) : Prop := m p = lN (4096 * g + c.1.length) ∧ EntAt m (p + 1) c.1 ∧ m (p + 1 + 2 * c.1.length) = -1 - lN c.2
def LogAt (m : Nat → Int64) (g : Nat) : Nat → List Com → Prop
  | _, [] => True
  | p, c :: cs => ComAt m g p c ∧ LogAt m g (p + csz c) cs
/-- no commit starts at p -/
def NF (m : Nat → Int64) (p : Nat) : Prop := m p - 4096 * m 0 < 1 ∨ 96 < m p - 4096 * m 0 ∨ ∃ k, 1 ≤ k ∧ k ≤ 96 ∧ m p - 4096 * m 0 = lN k ∧ (176 < p + 2 + 2 * k ∨ 0 ≤ m (p + 1 + 2 * k))
/-- the disk can be opened: it isn't formatted and its log is empty; or the commits in its log make its heap a chain. t: a bound of the numbers -/
def Rec (t : Nat) (m : Nat → Int64) : Prop := (m 0 = 0 ∧ m 2 = 0 ∧ ∀ j, 16 ≤ j → j < 176 → m j = 0) ∨ ∃ g cs, 1 ≤ g ∧ g ≤ t + 1 ∧ m 0 = lN g ∧ LogAt m g 16 cs ∧ (∀ c ∈ cs, entOk c ∧ c.2 ≤ t) ∧ 16 + lsz cs ≤ 176 ∧ (16 + lsz cs = 176 ∨ NF m (16 + lsz cs)) ∧ (∃ n2, n2 ≤ t ∧ m 2 = lN n2) ∧ ∃ bs, Seg (app m (flat cs)) 176 bs 1024
theorem EntAt_congr {m m' : Nat → Int64} : ∀ {l : List (Nat × Int64)} {p : Nat}, EntAt m p l → (∀ j, p ≤ j → j < p + 2 * l.length → m' j = m j) → EntAt m' p l
  | [], _, _, _ => trivial
  | e :: l, p, h, hm => by
    simp only [List.length_cons] at hm
    exact ⟨by rw [hm p (by omega) (by omega)]; exact h.1, by rw [hm (p + 1) (by omega) (by omega)]; exact h.2.1, EntAt_congr h.2.2 (fun j h1 h2 => hm j (by omega) (by omega))⟩
theorem ComAt_congr {m m' : Nat → Int64} {g p : Nat} {c : Com} (h : ComAt m g p c) (hm : ∀ j, p ≤ j → j < p + csz c → m' j = m j) : ComAt m' g p c := by
  unfold csz at hm
  exact ⟨by rw [hm p (by omega) (by omega)]; exact h.1, EntAt_congr h.2.1 (fun j h1 h2 => hm j (by omega) (by omega)), by rw [hm _ (by omega) (by omega)]; exact h.2.2⟩
theorem LogAt_congr {m m' : Nat → Int64} {g : Nat} : ∀ {cs : List Com} {p : Nat}, LogAt m g p cs → (∀ j, p ≤ j → j < p + lsz cs → m' j = m j) → LogAt m' g p cs
  | [], _, _, _ => trivial
  | c :: cs, p, h, hm => by
    have e : lsz (c :: cs) = csz c + lsz cs := rfl
    rw [e] at hm
    exact ⟨ComAt_congr h.1 (fun j h1 h2 => hm j h1 (by omega)), LogAt_congr h.2 (fun j h1 h2 => hm j (by omega) (by omega))⟩
theorem NF_congr {m m' : Nat → Int64} {p : Nat} (h : NF m p) (h0 : m' 0 = m 0) (hm : ∀ j, p ≤ j → j < 176 → m' j = m j) (hp : p < 176) : NF m' p := by
  unfold NF at h ⊢
  rw [h0, hm p (Nat.le_refl _) hp]
  rcases h with h | h | ⟨k, h1, h2, h3, h4⟩
  · exact Or.inl h
  · exact Or.inr (Or.inl h)
  · refine Or.inr (Or.inr ⟨k, h1, h2, h3, ?_⟩)
    by_cases q : 176 < p + 2 + 2 * k
    · exact Or.inl q
    · rw [hm _ (by omega) (by omega)]
      exact h4
theorem LogAt_app {m : Nat → Int64} {g : Nat} : ∀ {a b : List Com} {p : Nat}, LogAt m g p (a ++ b) ↔ LogAt m g p a ∧ LogAt m g (p + lsz a) b
  | [], b, p => ⟨fun h => ⟨trivial, h⟩, fun h => h.2⟩
  | c :: a, b, p => by
    have e : p + lsz (c :: a) = p + csz c + lsz a := by show p + (csz c + lsz a) = _; omega
    rw [e]
    constructor
    · rintro ⟨h1, h2⟩
      have := LogAt_app.mp h2
      exact ⟨⟨h1, this.1⟩, this.2⟩
    · rintro ⟨⟨h1, h2⟩, h3⟩
      exact ⟨h1, LogAt_app.mpr ⟨h2, h3⟩⟩
theorem lsz_app (a b : List Com) : lsz (a ++ b) = lsz a + lsz b := by
  induction a with
  | nil => simp [lsz]
  | cons c a ih =>
    show csz c + lsz (a ++ b) = csz c + lsz a + lsz b
    rw [ih]
    omega
theorem flat_app (a b : List Com) : flat (a ++ b) = flat a ++ flat b := by
  induction a with
  | nil => rfl
  | cons c a ih =>
    show c.1 ++ flat (a ++ b) = (c.1 ++ flat a) ++ flat b
    rw [ih, List.append_assoc]
theorem flat_ok {cs : List Com} (h : ∀ c ∈ cs, entOk c) : ∀ e ∈ flat cs, e.1 < 1024 ∧ (e.1 = 1 ∨ 176 ≤ e.1) := by
  induction cs with
  | nil => intro e he; cases he
  | cons c cs ih =>
    intro e he
    rcases List.mem_append.mp he with he | he
    · exact (h c List.mem_cons_self).2 e he
    · exact ih (fun x hx => h x (List.mem_cons_of_mem _ hx)) e he
theorem flat_len {cs : List Com} : 2 * (flat cs).length + 2 * cs.length = lsz cs := by
  induction cs with
  | nil => rfl
  | cons c cs ih =>
    have e1 : (flat (c :: cs)).length = c.1.length + (flat cs).length := by
      show (c.1 ++ flat cs).length = _
      rw [List.length_append]
    have e2 : lsz (c :: cs) = 2 + 2 * c.1.length + lsz cs := rfl
    rw [e1, e2, List.length_cons]
    omega
/-- numbers of the log -/
theorem dv_of {m : Nat → Int64} {g p n : Nat} (h0 : m 0 = lN g) (h : m p = lN (4096 * g + n)) : m p - 4096 * m 0 = lN n := by
  rw [h0, h, show (4096 : Int64) = lN 4096 from rfl, lN_mul, lN_sub (by omega)]
  congr 1
  omega
theorem dv3 (x : Int64) : x < 1 ∨ 96 < x ∨ ∃ k, 1 ≤ k ∧ k ≤ 96 ∧ x = lN k := by
  by_cases h : x < 1
  · exact Or.inl h
  · by_cases h2 : 96 < x
    · exact Or.inr (Or.inl h2)
    · obtain ⟨k, hk, rfl⟩ := pk_lOf (x := x) (fun q => h (Int64.lt_trans q (by decide)))
      rw [show (1 : Int64) = lN 1 from rfl, pk_lLT hk (by omega)] at h
      rw [show (96 : Int64) = lN 96 from rfl, pk_lLT (by omega) hk] at h2
      exact Or.inr (Or.inr ⟨k, by omega, by omega, rfl⟩)
theorem back_neg {n : Nat} (h : n < 2 ^ 31) : ((-1 : Int64) - lN n) < 0 := by
  rw [Int64.lt_iff_toInt_lt, Int64.toInt_sub, lN_toInt h]
  have h1 : (-1 : Int64).toInt = -1 := by decide
  have h2 : (0 : Int64).toInt = 0 := by decide
  rw [h1, h2]
  rw [Int.bmod_eq_of_le (by omega) (by omega)]
  omega
theorem back_num {n : Nat} : (-1 : Int64) - ((-1 : Int64) - lN n) = lN n := by
  apply wb_inj
  rw [Int64.toBitVec_sub, Int64.toBitVec_sub]
  generalize (lN n).toBitVec = x
  generalize (-1 : Int64).toBitVec = y
  bv_omega
theorem back_two {n : Nat} : (-2 : Int64) - lN n = (-1 : Int64) - lN (n + 1) := by
  rw [← lN_1]
  apply wb_inj
  rw [Int64.toBitVec_sub, Int64.toBitVec_sub, Int64.toBitVec_add]
  generalize (lN n).toBitVec = x
  rw [show (-2 : Int64).toBitVec = 18446744073709551614#64 from rfl, show (-1 : Int64).toBitVec = 18446744073709551615#64 from rfl, show (1 : Int64).toBitVec = 1#64 from rfl]
  bv_omega
section
variable {N : Nat} {d : DT} {vL : LT}
theorem front_c {n : Nat} (hn : n < 2 ^ 31) : f_Log_front vL d (nI n) = some (4096 * d.2.1 0 + lN n) := by
  unfold f_Log_front
  refine bnd (dread_c (w := 0) (by omega)) ?_
  rw [nI_l hn]
theorem csize_yes {g a : Nat} {c : Com} (h0 : d.2.1 0 = lN g) (h : ComAt d.2.1 g (16 + a) c) (hok : entOk c) (hn : c.2 < 2 ^ 31) (hr : a + csz c ≤ 160) : f_Log_commitSize vL d (nI a) = some (nI (csz c)) := by
  unfold csz at hr ⊢
  have h1 := hok.1
  have e1 : (16 : Int32) + nI a = nI (16 + a) := nI_add 16 a
  have ed : d.2.1 (16 + a) - (4096 * d.2.1 0 + lN 0) = lN c.1.length := by
    rw [show lN 0 = 0 from rfl, Int64.add_zero]
    exact dv_of h0 h.1
  unfold f_Log_commitSize
  rw [e1]
  refine bnd (dread_c (by omega)) (bnd (front_c (n := 0) (by omega)) ?_)
  rw [ed, lN_i]
  have e2 : (2 : Int32) + (2 : Int32) * nI c.1.length = nI (2 + 2 * c.1.length) := by
    rw [show (2 : Int32) = nI 2 from rfl, pk_mul, nI_add]
  rw [e2, nI_add, nI_add, show (1 : Int32) = nI 1 from rfl, pk_sub (by omega)]
  refine ifn ?_ (ift ?_ (ifn ?_ (bnd (dread_c (by omega)) (ift ?_ rfl))))
  · rw [lg_cmp_lt, show (1 : Int64) = lN 1 from rfl, lN_lt (by omega) (by omega)]
    omega
  · rw [lg_cmp_le, show (96 : Int64) = lN 96 from rfl, lN_le (by omega) (by omega)]
    omega
  · exact nI_nlt (a := 160) hr (by omega)
  · rw [lg_cmp_lt, show 16 + a + (2 + 2 * c.1.length) - 1 = 16 + a + 1 + 2 * c.1.length by omega, h.2.2]
    exact back_neg hn
theorem csize_no {a : Nat} (ha : a ≤ 160) (h : a = 160 ∨ NF d.2.1 (16 + a)) : f_Log_commitSize vL d (nI a) = some 0 := by
  have e1 : (16 : Int32) + nI a = nI (16 + a) := nI_add 16 a
  unfold f_Log_commitSize
  rw [e1]
  refine bnd (dread_c (by omega)) (bnd (front_c (n := 0) (by omega)) ?_)
  rw [show lN 0 = 0 from rfl, Int64.add_zero]
  have hNF : (d.2.1 (16 + a) - 4096 * d.2.1 0 < 1 ∨ 96 < d.2.1 (16 + a) - 4096 * d.2.1 0 ∨ ∃ k, 1 ≤ k ∧ k ≤ 96 ∧ d.2.1 (16 + a) - 4096 * d.2.1 0 = lN k ∧ (176 < 16 + a + 2 + 2 * k ∨ 0 ≤ d.2.1 (16 + a + 1 + 2 * k))) := by
    rcases h with h | h
    · rcases dv3 (d.2.1 (16 + a) - 4096 * d.2.1 0) with q | q | ⟨k, q1, q2, q3⟩
      · exact Or.inl q
      · exact Or.inr (Or.inl q)
      · exact Or.inr (Or.inr ⟨k, q1, q2, q3, Or.inl (by omega)⟩)
    · exact h
  rcases hNF with q | q | ⟨k, q1, q2, q3, q4⟩
  · exact ift ((lg_cmp_lt _ _).mpr q) rfl
  · by_cases z : d.2.1 (16 + a) - 4096 * d.2.1 0 < 1
    · exact ift ((lg_cmp_lt _ _).mpr z) rfl
    · exact ifn (fun y => z ((lg_cmp_lt _ _).mp y)) (ifn (fun y => Int64.not_lt.mpr ((lg_cmp_le _ _).mp y) q) rfl)
  · rw [q3, lN_i]
    have e2 : (2 : Int32) + (2 : Int32) * nI k = nI (2 + 2 * k) := by
      rw [show (2 : Int32) = nI 2 from rfl, pk_mul, nI_add]
    rw [e2, nI_add, nI_add, show (1 : Int32) = nI 1 from rfl, pk_sub (by omega)]
    refine ifn ?_ (ift ?_ ?_)
    · rw [lg_cmp_lt, show (1 : Int64) = lN 1 from rfl, lN_lt (by omega) (by omega)]
      omega
    · rw [lg_cmp_le, show (96 : Int64) = lN 96 from rfl, lN_le (by omega) (by omega)]
      omega
    · by_cases z : 160 < a + (2 + 2 * k)
      · exact ift (nI_lt (a := 160) z (by omega)) rfl
      · refine ifn (nI_nlt (a := 160) (by omega) (by omega)) (bnd (dread_c (by omega)) (ifn ?_ rfl))
        rw [lg_cmp_lt, show 16 + a + (2 + 2 * k) - 1 = 16 + a + 1 + 2 * k by omega]
        exact Int64.not_lt.mpr (q4.resolve_left (by omega))
end
