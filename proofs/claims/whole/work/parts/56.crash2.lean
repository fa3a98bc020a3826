/-! PURE SIDE 17: what a loss of power leaves of a carrying out, of a commit, of the formatting -/
theorem app_same {m m' : Nat → Int64} {j : Nat} : ∀ {l : List (Nat × Int64)}, m j = m' j → app m l j = app m' l j := by
  intro l
  induction l generalizing m m' with
  | nil => intro h; exact h
  | cons e l ih =>
    intro h
    show app (vp_updL m e.1 e.2) l j = app (vp_updL m' e.1 e.2) l j
    apply ih
    by_cases q : j = e.1
    · subst q; rw [pk_uLs, pk_uLs]
    · rw [pk_uLn q, pk_uLn q]; exact h
theorem app_hit {m m' : Nat → Int64} {j : Nat} : ∀ {l : List (Nat × Int64)}, (∃ e ∈ l, e.1 = j) → app m l j = app m' l j := by
  intro l
  induction l generalizing m m' with
  | nil => rintro ⟨e, he, _⟩; cases he
  | cons a l ih =>
    rintro ⟨e, he, q⟩
    show app (vp_updL m a.1 a.2) l j = app (vp_updL m' a.1 a.2) l j
    rcases List.mem_cons.mp he with h | h
    · apply app_same
      rw [← q, h, pk_uLs, pk_uLs]
    · exact ih ⟨e, h, q⟩
theorem app_idem {m : Nat → Int64} {j : Nat} {l l' : List (Nat × Int64)} (h : ∀ e ∈ l', e.1 = j → ∃ e' ∈ l, e'.1 = j) : app (app m l') l j = app m l j := by
  by_cases q : ∃ e ∈ l, e.1 = j
  · exact app_hit q
  · apply app_same
    exact app_other (fun e he z => q (h e he z))
theorem app_val {m : Nat → Int64} {j : Nat} : ∀ {l : List (Nat × Int64)}, app m l j = m j ∨ ∃ e ∈ l, e.1 = j ∧ app m l j = e.2 := by
  intro l
  induction l generalizing m with
  | nil => exact Or.inl rfl
  | cons a l ih =>
    have e : app m (a :: l) j = app (vp_updL m a.1 a.2) l j := rfl
    rw [e]
    rcases ih (m := vp_updL m a.1 a.2) with h | ⟨x, h1, h2, h3⟩
    · by_cases q : j = a.1
      · refine Or.inr ⟨a, List.mem_cons_self, q.symm, ?_⟩
        rw [h, q, pk_uLs]
      · rw [pk_uLn q] at h
        exact Or.inl h
    · exact Or.inr ⟨x, List.mem_cons_of_mem _ h1, h2, h3⟩
theorem zer_take {x : List (Nat × Int64)} : ∀ n p i, i ≤ n → (zer p n ++ x).take i = zer p i
  | n, p, 0, _ => by cases n <;> rfl
  | 0, p, i + 1, h => by omega
  | n + 1, p, i + 1, h => by
    show (p, 0) :: (zer (p + 1) n ++ x).take i = (p, 0) :: zer (p + 1) i
    rw [zer_take n (p + 1) i (by omega)]
theorem app_zer {m : Nat → Int64} {j : Nat} : ∀ n p, p ≤ j → j < p + n → app m (zer p n) j = 0 := by
  intro n p h1 h2
  have key : ∀ n p (m : Nat → Int64), p ≤ j → j < p + n → app m (zer p n) j = 0 := by
    intro n
    induction n with
    | zero => intro p m h1 h2; omega
    | succ n ih =>
      intro p m h1 h2
      show app (vp_updL m p 0) (zer (p + 1) n) j = 0
      by_cases q : j = p
      · subst q
        rw [app_other (fun e he z => by have := zer_mem he; omega), pk_uLs]
      · exact ih (p + 1) _ (by omega) (by omega)
  exact key n p m h1 h2
theorem zer_out {m : Nat → Int64} {j n p : Nat} (h : j < p ∨ p + n ≤ j) : app m (zer p n) j = m j := app_other (fun e he z => by have := zer_mem he; omega)
theorem neg_lt {n : Nat} (h : n < 2 ^ 60) : (0 : Int64) - lN n < 1 := by
  rw [Int64.lt_iff_toInt_lt, Int64.toInt_sub, pf_lI (by omega)]
  have h1 : (1 : Int64).toInt = 1 := by decide
  have h2 : (0 : Int64).toInt = 0 := by decide
  rw [h1, h2]
  rw [Int.bmod_eq_of_le (by omega) (by omega)]
  omega
theorem NF_zero {m : Nat → Int64} {p g : Nat} (h0 : m 0 = lN g) (hg : g < 2 ^ 40) (hp : m p = 0) : NF m p := by
  refine Or.inl ?_
  rw [hp, h0, show (4096 : Int64) = lN 4096 from rfl, lN_mul]
  exact neg_lt (by omega)
def RecF (t : Nat) (m : Nat → Int64) (g : Nat) (cs : List Com) : Prop := 1 ≤ g ∧ g ≤ t + 1 ∧ m 0 = lN g ∧ LogAt m g 16 cs ∧ (∀ c ∈ cs, entOk c ∧ c.2 ≤ t) ∧ 16 + lsz cs ≤ 176 ∧ (16 + lsz cs = 176 ∨ NF m (16 + lsz cs)) ∧ (∃ n2, n2 ≤ t ∧ m 2 = lN n2) ∧ ∃ bs, Seg (app m (flat cs)) 176 bs 1024
def Unf (m : Nat → Int64) : Prop := m 0 = 0 ∧ m 2 = 0 ∧ ∀ j, 16 ≤ j → j < 176 → m j = 0
theorem Rec_of {t : Nat} {m : Nat → Int64} {g : Nat} {cs : List Com} (h : RecF t m g cs) : Rec t m := Or.inr ⟨g, cs, h⟩
theorem Rec_un {t : Nat} {m : Nat → Int64} (h : Unf m) : Rec t m := Or.inl h
theorem RecF_mono {t : Nat} {m : Nat → Int64} {g : Nat} {cs : List Com} (h : RecF t m g cs) : RecF (t + 1) m g cs := by
  obtain ⟨h1, h2, h3, h4, h5, h6, h7, ⟨n2, h8, h9⟩, h10⟩ := h
  exact ⟨h1, by omega, h3, h4, fun c hc => ⟨(h5 c hc).1, by have := (h5 c hc).2; omega⟩, h6, h7, ⟨n2, by omega, h9⟩, h10⟩
theorem Rec_mono {t : Nat} (m : Nat → Int64) (h : Rec t m) : Rec (t + 1) m := by
  rcases h with h | ⟨g, cs, h⟩
  · exact Or.inl h
  · exact Or.inr ⟨g, cs, RecF_mono h⟩
theorem RecF_ok {t : Nat} {m : Nat → Int64} {g : Nat} {cs : List Com} (h : RecF t m g cs) (ht : t < 2 ^ 30) : LogOk m g 16 cs := ⟨h.2.2.1, h.2.2.2.1, fun c hc => ⟨(h.2.2.2.2.1 c hc).1, by have := (h.2.2.2.2.1 c hc).2; omega⟩⟩
/-- .. and stays so where the log's words are the same, the number is one of the two, the heap comes out the same -/
theorem RecF_congr {t n2 : Nat} {m m' : Nat → Int64} {g : Nat} {cs : List Com} (h : RecF t m g cs) (h0 : m' 0 = m 0) (hl : ∀ j, 16 ≤ j → j < 176 → m' j = m j) (h2 : m' 2 = m 2 ∨ m' 2 = lN n2) (hn : n2 ≤ t) (hh : ∀ j, 176 ≤ j → j < 1024 → app m' (flat cs) j = app m (flat cs) j) : RecF t m' g cs := by
  obtain ⟨a1, a2, a3, a4, a5, a6, a7, ⟨n, a8, a9⟩, bs, a10⟩ := h
  refine ⟨a1, a2, by rw [h0]; exact a3, LogAt_congr a4 (fun j q1 q2 => hl j q1 (by omega)), a5, a6, ?_, ?_, bs, Seg_congr a10 hh⟩
  · by_cases q : 16 + lsz cs = 176
    · exact Or.inl q
    · exact Or.inr (NF_congr (a7.resolve_left q) h0 (fun j q1 q2 => hl j (by omega) q2) (by omega))
  · rcases h2 with h2 | h2
    · exact ⟨n, a8, by rw [h2]; exact a9⟩
    · exact ⟨n2, hn, h2⟩
section
variable {d : DT} {w t g cl n2 : Nat} {cs : List Com}
theorem carry_spec (ht : t < 2 ^ 30) (h : OnD d w (Rec t)) (hw : w ≤ 160) (hR : RecF t d.2.1 g cs) (hn : n2 ≤ t) (h1 : 1 ≤ cl) (hc : cl ≤ 160) : ((sCarry d cs (lN n2) cl).1 = true ∧ OnD (sCarry d cs (lN n2) cl).2 0 (Rec (t + 1)) ∧ (sCarry d cs (lN n2) cl).2.2.1 0 = lN (g + 1) ∧ (sCarry d cs (lN n2) cl).2.2.1 2 = lN n2 ∧ (∀ j, 16 ≤ j → j < 16 + cl → (sCarry d cs (lN n2) cl).2.2.1 j = 0) ∧ (∀ j, 16 + cl ≤ j → j < 176 → (sCarry d cs (lN n2) cl).2.2.1 j = d.2.1 j) ∧ ∀ j, (j = 1 ∨ 176 ≤ j) → (sCarry d cs (lN n2) cl).2.2.1 j = app d.2.1 (flat cs) j) ∨ ((sCarry d cs (lN n2) cl).1 = false ∧ OffD (sCarry d cs (lN n2) cl).2 (Rec (t + 1))) := by
  have hg : g ≤ t + 1 := hR.2.1
  have hlen := flat_len (cs := cs)
  have hls := hR.2.2.2.2.2.1
  have hfk : ∀ e ∈ flat cs, e.1 < 1024 ∧ (e.1 = 1 ∨ 176 ≤ e.1) := flat_ok (fun c hc => (hR.2.2.2.2.1 c hc).1)
  have hk : ∀ e ∈ flat cs ++ [(2, lN n2)], e.1 < 1024 ∧ (e.1 = 1 ∨ 176 ≤ e.1 ∨ e = (2, lN n2)) := fun e he => by
    rcases List.mem_append.mp he with he | he
    · have := hfk e he
      exact ⟨this.1, this.2.elim Or.inl (fun z => Or.inr (Or.inl z))⟩
    · rcases List.mem_cons.mp he with he | he
      · subst he; exact ⟨by show 2 < 1024; omega, Or.inr (Or.inr rfl)⟩
      · cases he
  -- every state of the first part
  have hA : ∀ l', (∀ e ∈ l', e ∈ flat cs ++ [(2, lN n2)]) → RecF t (app d.2.1 l') g cs := fun l' hl' => by
    have hne : ∀ j, j ≠ 1 → j < 176 → j ≠ 2 → app d.2.1 l' j = d.2.1 j := fun j q1 q2 q3 => app_other (fun e he z => by
      rcases (hk e (hl' e he)).2 with q | q | q
      · omega
      · omega
      · rw [q] at z; exact q3 z.symm)
    refine RecF_congr hR (hne 0 (by omega) (by omega) (by omega)) (fun j q1 q2 => hne j (by omega) q2 (by omega)) ?_ hn (fun j q1 q2 => app_idem (fun e he z => ?_))
    · rcases app_val (m := d.2.1) (j := 2) (l := l') with q | ⟨e, e1, e2, e3⟩
      · exact Or.inl q
      · rcases (hk e (hl' e e1)).2 with z | z | z
        · omega
        · omega
        · rw [z] at e3; exact Or.inr e3
    · rcases List.mem_append.mp (hl' e he) with y | y
      · exact ⟨e, y, z⟩
      · rcases List.mem_cons.mp y with y | y
        · rw [y] at z
          have : (2 : Nat) = j := z
          omega
        · cases y
  have hl1 : (flat cs ++ [((2 : Nat), lN n2)]).length = (flat cs).length + 1 := by rw [List.length_append]; rfl
  unfold sCarry
  rcases writes_spec (P := Rec t) (flat cs ++ [(2, lN n2)]) d w h (fun e he => (hk e he).1) (by omega) (fun i _ => Rec_of (hA _ (fun e he => List.mem_of_mem_take he))) with ⟨a1, a2, a3⟩ | ⟨a1, a2⟩
  · rw [if_pos a1]
    have hm1 := hA (flat cs ++ [(2, lN n2)]) (fun e he => he)
    obtain ⟨b1, b2⟩ := sync_on a2 (by omega)
    rw [← a3] at hm1
    generalize hr1 : (sWrites d (flat cs ++ [(2, lN n2)])).2 = r1 at *
    have hl2 : (zer 16 cl ++ [((0 : Nat), r1.2.1 0 + 1)]).length = cl + 1 := by rw [List.length_append, zer_len]; rfl
    have e2 : r1.2.1 2 = lN n2 := by
      rw [a3, app_app]
      show vp_updL (app d.2.1 (flat cs)) 2 (lN n2) 2 = _
      exact pk_uLs
    have eh : ∀ j, j ≠ 2 → r1.2.1 j = app d.2.1 (flat cs) j := fun j q => by
      rw [a3, app_app]
      show vp_updL (app d.2.1 (flat cs)) 2 (lN n2) j = _
      exact pk_uLn q
    have e0 : r1.2.1 0 = lN g := hm1.2.2.1
    obtain ⟨bs, hbs⟩ := hm1.2.2.2.2.2.2.2.2
    have hbs' : Seg r1.2.1 176 bs 1024 := Seg_congr hbs (fun j q1 q2 => by
      rw [a3]
      rw [app_idem (fun e he z => by
        rcases List.mem_append.mp he with y | y
        · exact ⟨e, y, z⟩
        · rcases List.mem_cons.mp y with y | y
          · rw [y] at z
            have : (2 : Nat) = j := z
            omega
          · cases y), ← eh j (by omega), a3])
    -- every state of the second part
    have hB : ∀ i, 1 ≤ i → i ≤ cl → RecF t (app r1.2.1 (zer 16 i)) g [] := fun i q1 q2 => by
      have z0 : app r1.2.1 (zer 16 i) 0 = lN g := by rw [zer_out (Or.inl (by omega))]; exact e0
      refine ⟨hR.1, hg, z0, trivial, fun c hc => (by cases hc), by show 16 + 0 ≤ 176; omega, Or.inr (NF_zero z0 (by omega) (app_zer i 16 (by show 16 ≤ 16 + 0; omega) (by show 16 + 0 < _; omega))), ⟨n2, hn, by rw [zer_out (Or.inl (by omega))]; exact e2⟩, bs, Seg_congr hbs' (fun j y1 y2 => ?_)⟩
      show app r1.2.1 (zer 16 i) j = _
      rw [zer_out (Or.inr (by omega))]
    have eL : app r1.2.1 (zer 16 cl ++ [(0, r1.2.1 0 + 1)]) = vp_updL (app r1.2.1 (zer 16 cl)) 0 (lN (g + 1)) := by
      rw [app_app, e0, lN_1]
      rfl
    have hC : RecF (t + 1) (app r1.2.1 (zer 16 cl ++ [(0, r1.2.1 0 + 1)])) (g + 1) [] := by
      rw [eL]
      have z0 : vp_updL (app r1.2.1 (zer 16 cl)) 0 (lN (g + 1)) 0 = lN (g + 1) := pk_uLs
      refine ⟨by omega, by omega, z0, trivial, fun c hc => (by cases hc), by show 16 + 0 ≤ 176; omega, Or.inr (NF_zero z0 (by omega) (by rw [pk_uLn (by show 16 + 0 ≠ 0; omega)]; exact app_zer cl 16 (by show 16 ≤ 16 + 0; omega) (by show 16 + 0 < _; omega))), ⟨n2, by omega, by rw [pk_uLn (by omega), zer_out (Or.inl (by omega))]; exact e2⟩, bs, Seg_congr hbs' (fun j y1 y2 => ?_)⟩
      show vp_updL (app r1.2.1 (zer 16 cl)) 0 (lN (g + 1)) j = _
      rw [pk_uLn (by omega), zer_out (Or.inr (by omega))]
    have hP : ∀ i, i ≤ (zer 16 cl ++ [((0 : Nat), r1.2.1 0 + 1)]).length → Rec (t + 1) (app (sSync r1).2.1 ((zer 16 cl ++ [(0, r1.2.1 0 + 1)]).take i)) := fun i hi => by
      rw [b2]
      by_cases q : i ≤ cl
      · rw [zer_take cl 16 i q]
        by_cases q0 : i = 0
        · subst q0
          exact Rec_of (RecF_mono hm1)
        · exact Rec_of (RecF_mono (hB i (by omega) q))
      · rw [List.take_of_length_le (by omega)]
        exact Rec_of hC
    have hk2 : ∀ e ∈ zer 16 cl ++ [((0 : Nat), r1.2.1 0 + 1)], e.1 < 1024 := fun e he => by
      rcases List.mem_append.mp he with y | y
      · have := zer_mem y; omega
      · rcases List.mem_cons.mp y with y | y
        · subst y; show 0 < 1024; omega
        · cases y
    rcases writes_spec (P := Rec (t + 1)) (zer 16 cl ++ [(0, r1.2.1 0 + 1)]) (sSync r1) 0 (b1.mono Rec_mono) hk2 (by omega) hP with ⟨c1, c2, c3⟩ | ⟨c1, c2⟩
    · rw [if_pos c1]
      obtain ⟨f1, f2⟩ := sync_on c2 (by omega)
      rw [b2, eL] at c3
      refine Or.inl ⟨rfl, f1, ?_, ?_, ?_, ?_, ?_⟩
      · show (sSync _).2.1 0 = _
        rw [f2, c3, pk_uLs]
      · show (sSync _).2.1 2 = _
        rw [f2, c3, pk_uLn (by omega), zer_out (Or.inl (by omega)), e2]
      · intro j q1 q2
        show (sSync _).2.1 j = _
        rw [f2, c3, pk_uLn (by omega), app_zer cl 16 q1 q2]
      · intro j q1 q2
        show (sSync _).2.1 j = _
        rw [f2, c3, pk_uLn (by omega), zer_out (Or.inr (by omega)), eh j (by omega), app_other (fun e he z => by have := (hfk e he).2; omega)]
      · intro j q1
        show (sSync _).2.1 j = _
        rw [f2, c3, pk_uLn (by omega), zer_out (by omega), eh j (by omega)]
    · rw [if_neg (by rw [c1]; decide)]
      exact Or.inr ⟨rfl, c2⟩
  · rw [if_neg (by rw [a1]; decide)]
    exact Or.inr ⟨rfl, a2.mono Rec_mono⟩
end
