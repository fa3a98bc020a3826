/-! PURE SIDE 3: the changes of a transaction. ps: the words with changes, in order; own: the words as the transaction has them; g: as they were -/
def chgd (ps : List Nat) : Nat → Int32 := fun w => if w ∈ ps then 1 else 0
def Pl (p : Nat → Int32) (ps : List Nat) : Prop := ∀ j w, ps[j]? = some w → p j = nI w
/-- the changes in order: rising, words, not too many -/
def psok (ps : List Nat) : Prop := ps.Pairwise (· < ·) ∧ (∀ w ∈ ps, w < 1024) ∧ ps.length ≤ 96
abbrev mkC (g own : Nat → Int64) (ps : List Nat) (p : Nat → Int32) (o : Bool) : CT := (g, own, chgd ps, p, nI ps.length, o)
/-- outside the changes the words are as they were -/
def ownok (g own : Nat → Int64) (ps : List Nat) : Prop := ∀ w, w ∉ ps → own w = g w
/-- the reference's changes are the same -/
def chok (own ch : Nat → Int64) (ps : List Nat) : Prop := ∀ w, w ∈ ps → ch w = own w
def ins (w : Nat) : List Nat → List Nat
  | [] => [w]
  | a :: l => if a < w then a :: ins w l else w :: a :: l
theorem ins_app (w : Nat) : ∀ (A B : List Nat), (∀ a ∈ A, a < w) → (∀ b ∈ B, w < b) → ins w (A ++ B) = A ++ w :: B
  | [], [], _, _ => rfl
  | [], b :: B, _, h => if_neg (by have := h b List.mem_cons_self; omega)
  | a :: A, B, h1, h2 => by
    show (if a < w then a :: ins w (A ++ B) else w :: a :: (A ++ B)) = a :: (A ++ w :: B)
    rw [if_pos (h1 a List.mem_cons_self), ins_app w A B (fun x hx => h1 x (List.mem_cons_of_mem _ hx)) h2]
theorem mem_ins {w x : Nat} : ∀ {l : List Nat}, x ∈ ins w l ↔ x = w ∨ x ∈ l
  | [] => by simp [ins]
  | a :: l => by
    unfold ins
    by_cases h : a < w
    · rw [if_pos h]
      simp only [List.mem_cons, mem_ins (l := l)]
      constructor
      · rintro (h | h | h) <;> simp [h]
      · rintro (h | h | h) <;> simp [h]
    · rw [if_neg h]
      simp
theorem len_ins {w : Nat} : ∀ {l : List Nat}, (ins w l).length = l.length + 1
  | [] => rfl
  | a :: l => by
    unfold ins
    by_cases h : a < w
    · rw [if_pos h]
      simp [len_ins (l := l)]
    · rw [if_neg h]
      simp
theorem ins_split {w : Nat} {l : List Nat} (hs : l.Pairwise (· < ·)) (hw : w ∉ l) : ∃ A B, l = A ++ B ∧ (∀ a ∈ A, a < w) ∧ ∀ b ∈ B, w < b := by
  induction l with
  | nil => exact ⟨[], [], rfl, by simp, by simp⟩
  | cons a l ih =>
    rw [List.pairwise_cons] at hs
    by_cases h : a < w
    · obtain ⟨A, B, e, h1, h2⟩ := ih hs.2 (fun q => hw (List.mem_cons_of_mem _ q))
      refine ⟨a :: A, B, by rw [e]; rfl, fun x hx => ?_, h2⟩
      rcases List.mem_cons.mp hx with rfl | hx
      · exact h
      · exact h1 x hx
    · have hne : a ≠ w := fun q => hw (by rw [q]; exact List.mem_cons_self)
      refine ⟨[], a :: l, rfl, by simp, fun b hb => ?_⟩
      rcases List.mem_cons.mp hb with rfl | hb
      · omega
      · have := hs.1 b hb
        omega
theorem ins_sorted {w : Nat} {l : List Nat} (hs : l.Pairwise (· < ·)) (hw : w ∉ l) : (ins w l).Pairwise (· < ·) := by
  obtain ⟨A, B, e, h1, h2⟩ := ins_split hs hw
  subst e
  rw [ins_app w A B h1 h2]
  rw [List.pairwise_append] at hs ⊢
  refine ⟨hs.1, List.pairwise_cons.mpr ⟨h2, hs.2.1⟩, fun a ha b hb => ?_⟩
  rcases List.mem_cons.mp hb with rfl | hb
  · exact h1 a ha
  · exact hs.2.2 a ha b hb
theorem chgd_ins {w : Nat} {ps : List Nat} : upd (chgd ps) w (vp_nar .boolean (1 : Int32)) = chgd (ins w ps) := funext fun j => by
  unfold upd chgd
  by_cases h : j = w
  · subst h
    rw [if_pos rfl, if_pos (mem_ins.mpr (Or.inl rfl))]
    decide
  · rw [if_neg h]
    by_cases h2 : j ∈ ps
    · rw [if_pos h2, if_pos (mem_ins.mpr (Or.inr h2))]
    · rw [if_neg h2, if_neg (fun q => (mem_ins.mp q).elim h h2)]
theorem chgd_in {w : Nat} {ps : List Nat} (h : w ∈ ps) : chgd ps w = 1 := if_pos h
theorem chgd_out {w : Nat} {ps : List Nat} (h : w ∉ ps) : chgd ps w = 0 := if_neg h
theorem psok_ins {w : Nat} {ps : List Nat} (h : psok ps) (hw : w < 1024) (hn : w ∉ ps) (hl : ps.length < 96) : psok (ins w ps) := by
  refine ⟨ins_sorted h.1 hn, fun x hx => ?_, by rw [len_ins]; omega⟩
  rcases mem_ins.mp hx with rfl | hx
  · exact hw
  · exact h.2.1 x hx
/-- the class's insertion: from the end on, what is greater moves up -/
theorem insl_c {N : Nat} (g own : Nat → Int64) (c : Nat → Int32) (sz : Int32) (o : Bool) {w : Nat} (hw : w < 1024) : ∀ n (A B : List Nat) (p : Nat → Int32), A.length < n → A.length + B.length < 96 → (∀ a ∈ A, a < 1024) → (∀ b ∈ B, w < b) → A.Pairwise (· < ·) → w ∉ A → Pl p A → (∀ j x, B[j]? = some x → p (A.length + 1 + j) = nI x) →
    ∃ p', f_Chg_insert_15 N n (g, own, c, p, sz, o) (nI w) (nI A.length) = some (g, own, c, p', sz + 1, o) ∧ Pl p' (ins w (A ++ B)) := by
  intro n
  induction n with
  | zero => intro A B p h; omega
  | succ n ih =>
    intro A B p hn hlen hA hB hs hwA hp hq
    -- laying w at the end of A
    have put : (∀ a ∈ A, a < w) → Pl (upd p A.length (nI w)) (ins w (A ++ B)) := by
      intro h1
      rw [ins_app w A B h1 hB]
      intro j x hx
      by_cases hj : j < A.length
      · rw [List.getElem?_append_left hj] at hx
        rw [pk_un (by omega)]
        exact hp j x hx
      · rw [List.getElem?_append_right (by omega)] at hx
        by_cases he : j = A.length
        · subst he
          rw [Nat.sub_self] at hx
          cases hx
          exact pk_us
        · rw [pk_un he]
          obtain ⟨i, rfl⟩ : ∃ i, j = A.length + 1 + i := ⟨j - (A.length + 1), by omega⟩
          rw [show A.length + 1 + i - A.length = i + 1 by omega, List.getElem?_cons_succ] at hx
          exact hq i x hx
    unfold f_Chg_insert_15
    rcases List.eq_nil_or_concat A with rfl | ⟨A', a, rfl⟩
    · refine ⟨upd p 0 (nI w), ?_, put (by simp)⟩
      refine ift (by show nI 0 ≤ 0; decide) (ift (gI_nI (k := 0) (by omega) (by omega)) ?_)
      rfl
    · rw [List.concat_eq_append] at *
      have hl : (A' ++ [a]).length = A'.length + 1 := by simp
      have ha : p A'.length = nI a := hp A'.length a (by simp)
      have hsub : nI (A' ++ [a]).length - 1 = nI A'.length := by rw [hl]; exact nI_pred _
      have ha2 := hA a (by simp)
      have hne : a ≠ w := fun q => hwA (by simp [q])
      simp only [hsub]
      rw [List.pairwise_append] at hs
      have e0 : ¬ nI (A' ++ [a]).length ≤ 0 := nI_nle (by rw [hl]; omega) (by rw [hl]; omega)
      have e1 : p (nI A'.length).toNatClampNeg = nI a := by rw [clN (by omega)]; exact ha
      by_cases hc : a < w
      · refine ⟨upd p (A' ++ [a]).length (nI w), ?_, put ?_⟩
        · refine ifn e0 (ift (gI_nI (by omega) (by omega)) (ift ?_ (ift (gI_nI (by omega) (by omega)) ?_)))
          · show p (nI A'.length).toNatClampNeg ≤ nI w
            rw [e1]
            exact nI_le (by omega) (by omega)
          · show some (g, own, c, upd p (nI (A' ++ [a]).length).toNatClampNeg (nI w), sz + 1, o) = _
            rw [clN (by omega)]
        · intro b hb
          rcases List.mem_append.mp hb with hb | hb
          · have := hs.2.2 b hb a (by simp)
            omega
          · rw [List.mem_singleton.mp hb]
            exact hc
      · have hB' : ∀ b ∈ a :: B, w < b := by
          intro b hb
          rcases List.mem_cons.mp hb with rfl | hb
          · omega
          · exact hB b hb
        obtain ⟨p', h1, h2⟩ := ih A' (a :: B) (upd p (A'.length + 1) (nI a)) (by omega) (by simp only [List.length_cons]; omega) (fun x hx => hA x (by simp [hx])) hB' hs.1 (fun q => hwA (by simp [q]))
          (fun j x hx => by
            have hj : j < A'.length := (List.getElem?_eq_some_iff.mp hx).1
            rw [pk_un (by omega)]
            exact hp j x (by rw [List.getElem?_append_left hj]; exact hx))
          (fun j x hx => by
            cases j with
            | zero =>
              cases hx
              exact pk_us
            | succ j =>
              rw [pk_un (by omega)]
              rw [List.getElem?_cons_succ] at hx
              have := hq j x hx
              rw [hl] at this
              rw [← this]
              congr 1
              omega)
        refine ⟨p', ?_, by rw [List.append_assoc]; exact h2⟩
        rw [← h1]
        refine ifn e0 (ift (gI_nI (by omega) (by omega)) (ifn ?_ (ift (gI_nI (by omega) (by omega)) (ift (gI_nI (by omega) (by omega)) ?_))))
        · show ¬ p (nI A'.length).toNatClampNeg ≤ nI w
          rw [e1]
          exact nI_ge (by omega) (by omega)
        · show f_Chg_insert_15 N n (g, own, c, upd p (nI (A' ++ [a]).length).toNatClampNeg (p (nI A'.length).toNatClampNeg), sz, o) (nI w) (nI (A' ++ [a]).length + (-1)) = _
          rw [e1, clN (by omega), hl, pk_m1]
