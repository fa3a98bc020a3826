/-! PURE SIDE 5: the end of a transaction, on both sides; the words read anew -/
section
variable {N : Nat} {g own : Nat → Int64} {ps : List Nat} {p : Nat → Int32} {o : Bool}
theorem chgd_nil : chgd [] = fun _ => 0 := rfl
theorem chgd_rm {a : Nat} {l : List Nat} (h : a ∉ l) : upd (chgd (a :: l)) a (vp_nar .boolean (0 : Int32)) = chgd l := funext fun j => by
  unfold upd
  by_cases e : j = a
  · subst e
    rw [if_pos rfl, chgd_out h]
    decide
  · rw [if_neg e]
    unfold chgd
    by_cases h2 : j ∈ l
    · rw [if_pos h2, if_pos (List.mem_cons_of_mem _ h2)]
    · rw [if_neg h2, if_neg (fun q => (List.mem_cons.mp q).elim e h2)]
theorem place_c {c : Nat → Int32} {g' own' : Nat → Int64} {i a : Nat} (hp : Pl p ps) (hl : ps.length ≤ 96) (hi : ps[i]? = some a) : f_Chg_place (g', own', c, p, nI ps.length, o) (nI i) = some (nI a) := by
  have hlt : i < ps.length := (List.getElem?_eq_some_iff.mp hi).1
  unfold f_Chg_place
  refine ifn (nI_pos (by omega)) (ifn (show ¬ nI ps.length ≤ nI i from nI_ge hlt (by omega)) (ifn (show ¬ (96 : Int32) ≤ nI i from nI_ge (b := 96) (by omega) (by omega)) (ift (gI_nI (by omega) (by omega)) ?_)))
  show some (p (nI i).toNatClampNeg) = _
  rw [clN (by omega), hp i a hi]
theorem drop_at {i a : Nat} {l : List Nat} (h : ps.drop i = a :: l) : ps[i]? = some a ∧ ps.drop (i + 1) = l ∧ i < ps.length := by
  have hl : i < ps.length := by
    rcases Nat.lt_or_ge i ps.length with q | q
    · exact q
    · rw [List.drop_eq_nil_of_le q] at h
      cases h
  refine ⟨?_, ?_, hl⟩
  · have := congrArg (fun z => z[0]?) h
    simpa using this
  · have := congrArg (fun z => z.drop 1) h
    simpa [List.drop_drop, Nat.add_comm] using this
theorem dropl_c (hs : psok ps) (hp : Pl p ps) : ∀ (l : List Nat) n i, ps.drop i = l → i ≤ ps.length → l.length < n → f_Chg_drop_2 N n (g, own, chgd l, p, nI ps.length, o) (nI i) = some (g, own, chgd [], p, 0, false) := by
  have h96 := hs.2.2
  intro l
  induction l with
  | nil =>
    intro n i h hi hn
    have : i = ps.length := by
      have := List.drop_eq_nil_iff.mp h
      omega
    subst this
    cases n with
    | zero => omega
    | succ n =>
      unfold f_Chg_drop_2
      exact ift (show nI ps.length ≤ nI ps.length from nI_le (Nat.le_refl _) (by omega)) rfl
  | cons a l ih =>
    intro n i h hi hn
    obtain ⟨h1, h2, h3⟩ := drop_at h
    have hm : a ∈ ps := List.mem_of_getElem? h1
    have ha := hs.2.1 a hm
    have hal : a ∉ l := by
      have : (ps.drop i).Pairwise (· < ·) := hs.1.sublist (List.drop_sublist i ps)
      rw [h, List.pairwise_cons] at this
      exact fun q => Nat.lt_irrefl _ (this.1 a q)
    cases n with
    | zero => simp at hn
    | succ n =>
      unfold f_Chg_drop_2
      refine ifn (show ¬ nI ps.length ≤ nI i from nI_ge h3 (by omega)) (bnd (place_c hp h96 h1) (bnd (isW ha) (ift rfl (ift (gI_nI ha (by omega)) ?_))))
      show f_Chg_drop_2 N n (g, own, upd (chgd (a :: l)) (nI a).toNatClampNeg (vp_nar .boolean (0 : Int32)), p, nI ps.length, o) (nI i + 1) = _
      rw [clN (by omega), chgd_rm hal, nI_1]
      exact ih n (i + 1) h2 (by omega) (by simp at hn; omega)
theorem drop_c (hs : psok ps) (hp : Pl p ps) (hN : 96 < N) : f_Chg_drop N (mkC g own ps p o) = some (mkC g own [] p false) := dropl_c hs hp ps N 0 (by simp) (by omega) (by have := hs.2.2; omega)
/-- the words of l out of a, the others out of b -/
def pick (a b : Nat → Int64) (l : List Nat) : Nat → Int64 := fun j => if j ∈ l then a j else b j
theorem pick_cons {a b : Nat → Int64} {w : Nat} {l : List Nat} : pick a (vp_updL b w (a w)) l = pick a b (w :: l) := funext fun j => by
  unfold pick
  by_cases h : j ∈ l
  · rw [if_pos h, if_pos (List.mem_cons_of_mem _ h)]
  · rw [if_neg h]
    by_cases e : j = w
    · subst e
      rw [pk_uLs, if_pos List.mem_cons_self]
    · rw [pk_uLn e, if_neg (fun q => (List.mem_cons.mp q).elim e h)]
theorem pick_nil {a b : Nat → Int64} : pick a b [] = b := funext fun j => if_neg (by simp)
theorem accl_c (hs : psok ps) (hp : Pl p ps) (hN : 96 < N) : ∀ (l : List Nat) (b : Nat → Int64) n i, ps.drop i = l → i ≤ ps.length → l.length < n → f_Chg_accept_2 N n (b, own, chgd ps, p, nI ps.length, o) (nI i) = some (mkC (pick own b l) own [] p false) := by
  have h96 := hs.2.2
  intro l
  induction l with
  | nil =>
    intro b n i h hi hn
    have : i = ps.length := by
      have := List.drop_eq_nil_iff.mp h
      omega
    subst this
    cases n with
    | zero => omega
    | succ n =>
      unfold f_Chg_accept_2
      refine ift (show nI ps.length ≤ nI ps.length from nI_le (Nat.le_refl _) (by omega)) (bnd (drop_c (N := N) hs hp hN) ?_)
      rw [pick_nil]
  | cons a l ih =>
    intro b n i h hi hn
    obtain ⟨h1, h2, h3⟩ := drop_at h
    have ha := hs.2.1 a (List.mem_of_getElem? h1)
    cases n with
    | zero => simp at hn
    | succ n =>
      unfold f_Chg_accept_2
      refine ifn (show ¬ nI ps.length ≤ nI i from nI_ge h3 (by omega)) (bnd (place_c hp h96 h1) (bnd (isW ha) (ift rfl (ift (gI_nI ha (by omega)) (ift (gI_nI ha (by omega)) ?_)))))
      show f_Chg_accept_2 N n (vp_updL b (nI a).toNatClampNeg (own (nI a).toNatClampNeg), own, chgd ps, p, nI ps.length, o) (nI i + 1) = _
      rw [clN (by omega), nI_1, ih _ n (i + 1) h2 (by omega) (by simp at hn; omega), pick_cons]
theorem accept_c (hs : psok ps) (hp : Pl p ps) (ho : ownok g own ps) (hN : 96 < N) : f_Chg_accept N (mkC g own ps p o) = some (mkC own own [] p false) := by
  have h := accl_c (N := N) (own := own) (o := o) hs hp hN ps g N 0 (by simp) (by omega) (by have := hs.2.2; omega)
  have e : pick own g ps = own := funext fun j => by
    unfold pick
    by_cases q : j ∈ ps
    · rw [if_pos q]
    · rw [if_neg q, ho j q]
  rw [e] at h
  exact h
theorem tbl_c (hs : psok ps) (hp : Pl p ps) (hN : 96 < N) : ∀ (l : List Nat) (b : Nat → Int64) n i, ps.drop i = l → i ≤ ps.length → l.length < n → f_Chg_takeBack_2 N n (g, b, chgd ps, p, nI ps.length, o) (nI i) = some (mkC g (pick g b l) [] p false) := by
  have h96 := hs.2.2
  intro l
  induction l with
  | nil =>
    intro b n i h hi hn
    have : i = ps.length := by
      have := List.drop_eq_nil_iff.mp h
      omega
    subst this
    cases n with
    | zero => omega
    | succ n =>
      unfold f_Chg_takeBack_2
      refine ift (show nI ps.length ≤ nI ps.length from nI_le (Nat.le_refl _) (by omega)) (bnd (drop_c (N := N) hs hp hN) ?_)
      rw [pick_nil]
  | cons a l ih =>
    intro b n i h hi hn
    obtain ⟨h1, h2, h3⟩ := drop_at h
    have ha := hs.2.1 a (List.mem_of_getElem? h1)
    cases n with
    | zero => simp at hn
    | succ n =>
      unfold f_Chg_takeBack_2
      refine ifn (show ¬ nI ps.length ≤ nI i from nI_ge h3 (by omega)) (bnd (place_c hp h96 h1) (bnd (isW ha) (ift rfl (ift (gI_nI ha (by omega)) (ift (gI_nI ha (by omega)) ?_)))))
      show f_Chg_takeBack_2 N n (g, vp_updL b (nI a).toNatClampNeg (g (nI a).toNatClampNeg), chgd ps, p, nI ps.length, o) (nI i + 1) = _
      rw [clN (by omega), nI_1, ih _ n (i + 1) h2 (by omega) (by simp at hn; omega), pick_cons]
theorem takeBack_c (hs : psok ps) (hp : Pl p ps) (ho : ownok g own ps) (hN : 96 < N) : f_Chg_takeBack N (mkC g own ps p o) = some (mkC g g [] p false) := by
  have h := tbl_c (N := N) (g := g) (o := o) hs hp hN ps own N 0 (by simp) (by omega) (by have := hs.2.2; omega)
  have e : pick g own ps = g := funext fun j => by
    unfold pick
    by_cases q : j ∈ ps
    · rw [if_pos q]
    · rw [if_neg q, ho j q]
  rw [e] at h
  exact h
theorem dread_c {d : DT} {w : Nat} (hw : w < 1024) : f_Disk_read d (nI w) = some (d.2.1 w) := by
  unfold f_Disk_read
  refine bnd (isW hw) (ift rfl (ift (gI_nI hw (by omega)) ?_))
  rw [clN (by omega)]
theorem loadl_c {d : DT} {c : Nat → Int32} {sz : Int32} : ∀ n i, i ≤ 1024 → 1024 < i + n → f_Chg_load_2 N d n (upto d.2.1 g i, own, c, p, sz, o) (nI i) = some (upto d.2.1 g 1024, upto (upto d.2.1 g 1024) own 1024, c, p, sz, o) := by
  intro n
  induction n with
  | zero => intro i h1 h2; omega
  | succ n ih =>
    intro i h1 h2
    unfold f_Chg_load_2
    by_cases he : i = 1024
    · subst he
      refine ift (show (1024 : Int32) ≤ nI 1024 from nI_le (a := 1024) (Nat.le_refl _) (by omega)) ?_
      rw [cpy_upto]
    · refine ifn (show ¬ (1024 : Int32) ≤ nI i from nI_ge (b := 1024) (by omega) (by omega)) (bnd (dread_c (by omega)) (ift (gI_nI (by omega) (by omega)) ?_))
      show f_Chg_load_2 N d n (vp_updL (upto d.2.1 g i) (nI i).toNatClampNeg (d.2.1 i), own, c, p, sz, o) (nI i + 1) = _
      rw [clN (by omega), nI_1, upto_L]
      exact ih (i + 1) (by omega) (by omega)
/-- the words read anew -/
theorem load_c {d : DT} {c : Nat → Int32} {sz : Int32} (hN : 1024 < N) (hx : ∀ j, 1024 ≤ j → own j = g j) : f_Chg_load N d (g, own, c, p, sz, o) = some (upto d.2.1 g 1024, upto d.2.1 g 1024, c, p, sz, o) := by
  have h := loadl_c (N := N) (g := g) (own := own) (p := p) (o := o) (d := d) (c := c) (sz := sz) N 0 (by omega) (by omega)
  rw [upto_0] at h
  have e : upto (upto d.2.1 g 1024) own 1024 = upto d.2.1 g 1024 := funext fun j => by
    unfold upto
    by_cases q : j < 1024
    · rw [if_pos q, if_pos q]
    · rw [if_neg q, if_neg q, hx j (by omega)]
  rw [e] at h
  exact h
end
