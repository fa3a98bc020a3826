/-! PURE SIDE 8: taking and giving back, on both sides -/
/-- changes are of the root or of the heap -/
def pshr (ps : List Nat) : Prop := ∀ w ∈ ps, w = 1 ∨ 176 ≤ w
theorem pshr_N {own : Nat → Int64} {ps : List Nat} {w : Nat} {x : Int64} (h : pshr ps) (hw : w = 1 ∨ 176 ≤ w) : pshr (psN own ps w x) := by
  intro j hj
  unfold psN at hj
  by_cases q : moreN own ps w x = 1
  · rw [if_pos q] at hj
    rcases mem_ins.mp hj with rfl | hj
    · exact hw
    · exact h j hj
  · rw [if_neg q] at hj
    exact h j hj
/-- the state of an open transaction, both sides -/
def TS (g own ch : Nat → Int64) (ps : List Nat) (p : Nat → Int32) : Prop := HS g own ch ps true ∧ psok ps ∧ Pl p ps ∧ pshr ps
section
variable {N : Nat} {d : DT} {g own : Nat → Int64} {ps : List Nat} {p : Nat → Int32} {ch : Nat → Int64} {us co : Int32} {la : Int64} {th : Int32}
theorem chg_both {w : Nat} {x : Int64} (H : TS g own ch ps p) (hw : w < 1024) (hr : w = 1 ∨ 176 ≤ w) (hN : 96 < N) (hf : ps.length + moreN own ps w x ≤ 96) : ∃ p' ch', f_Chg_change N (mkC g own ps p true) (nI w) x = some (true, mkC g (vp_updL own w x) (psN own ps w x) p' true) ∧ f_Mod_become (mkM d g (chgd ps) ch (nI ps.length) true us co la th) (nI w) x = some (mkM d g (chgd (psN own ps w x)) ch' (nI (psN own ps w x).length) true us co la th) ∧ f_Mod_tryOne (mkM d g (chgd ps) ch (nI ps.length) true us co la th) (nI w) x = some (true, mkM d g (chgd (psN own ps w x)) ch' (nI (psN own ps w x).length) true us co la th) ∧ TS g (vp_updL own w x) ch' (psN own ps w x) p' := by
  obtain ⟨⟨H1, H2, -⟩, H4, H5, H6⟩ := H
  obtain ⟨p', a1, a2⟩ := change_yes (N := N) (g := g) (o := true) (x := x) hw H4 H5 hN hf
  obtain ⟨ch', b1, b2⟩ := become_m (d := d) (o := true) (us := us) (co := co) (la := la) (th := th) (x := x) hw H1 H2
  refine ⟨p', ch', a1, b1, ?_, ⟨ownok_N H1, b2, fun q => by cases q⟩, psok_N H4 hw hf, a2, pshr_N H6 hr⟩
  unfold f_Mod_tryOne
  refine bnd (isMore_m hw H1) ?_
  by_cases h : moreN own ps w x = 1
  · refine ift (by simpa using h) (ifn ?_ (bnd b1 rfl))
    show ¬ nI ps.length = (96 : Int32)
    exact fun q => by
      have := (nI_eq (a := ps.length) (b := 96) (by omega) (by omega)).mp q
      omega
  · exact ifn (by simpa using h) (bnd b1 rfl)
theorem try_both {w : Nat} {x : Int64} (H : TS g own ch ps p) (hw : w < 1024) (hr : w = 1 ∨ 176 ≤ w) (hN : 96 < N) : (∃ p' ch', f_Chg_change N (mkC g own ps p true) (nI w) x = some (true, mkC g (vp_updL own w x) (psN own ps w x) p' true) ∧ f_Mod_tryOne (mkM d g (chgd ps) ch (nI ps.length) true us co la th) (nI w) x = some (true, mkM d g (chgd (psN own ps w x)) ch' (nI (psN own ps w x).length) true us co la th) ∧ TS g (vp_updL own w x) ch' (psN own ps w x) p') ∨ (f_Chg_change N (mkC g own ps p true) (nI w) x = some (false, mkC g own ps p true) ∧ f_Mod_tryOne (mkM d g (chgd ps) ch (nI ps.length) true us co la th) (nI w) x = some (false, mkM d g (chgd ps) ch (nI ps.length) true us co la th)) := by
  by_cases hf : ps.length + moreN own ps w x ≤ 96
  · obtain ⟨p', ch', a1, -, a3, a4⟩ := chg_both (d := d) (us := us) (co := co) (la := la) (th := th) H hw hr hN hf
    exact Or.inl ⟨p', ch', a1, a3, a4⟩
  · exact Or.inr ⟨change_no hw H.2.1.2.2 hf, try_no hw H.1.1 H.2.1.2.2 hf⟩
theorem ff_both (H : HS g own ch ps true) {m : Nat} (h1m : 1 ≤ m) (hm : m ≤ 847) {cn : Int32} : ∀ (bs : List (Nat × Bool)) (h f : Nat), Seg own h bs 1024 → 176 ≤ h → 1024 < h + f → (∃ A n B k, bs = A ++ (n, false) :: B ∧ Seg own h A k ∧ 176 ≤ k ∧ 1 ≤ n ∧ k + 1 + n ≤ 1024 ∧ own k = hd n false ∧ Seg own (k + 1 + n) B 1024 ∧ m ≤ n ∧ f_Blk_firstFree_4 N (mkC g own ps p true) f (nI m) (nI h) = some (nI k) ∧ f_Mod_take_45 N f (mkM d g (chgd ps) ch cn true us co la th) (nI m) (nI h) = tkt (mkM d g (chgd ps) ch cn true us co la th) (nI m) (nI k)) ∨ (f_Blk_firstFree_4 N (mkC g own ps p true) f (nI m) (nI h) = some (-1) ∧ f_Mod_take_45 N f (mkM d g (chgd ps) ch cn true us co la th) (nI m) (nI h) = some (-1, mkM d g (chgd ps) ch cn true us co la th)) := by
  obtain ⟨H1, H2, H3⟩ := H
  intro bs
  induction bs with
  | nil =>
    intro h f e hh hf
    have : h = 1024 := e
    subst this
    cases f with
    | zero => omega
    | succ f =>
      refine Or.inr ⟨?_, ?_⟩
      · unfold f_Blk_firstFree_4
        exact ift top_ge rfl
      · unfold f_Mod_take_45
        exact ift top_ge (ifn (show ¬ nI 1024 < (1024 : Int32) by decide) rfl)
  | cons b bs ih =>
    obtain ⟨n, u⟩ := b
    intro h f e hh hf
    obtain ⟨e1, e2, e3, e4⟩ := Seg_hd e
    have hlt : nI h < (1024 : Int32) := nI_lt (b := 1024) (by omega) (by omega)
    cases f with
    | zero => omega
    | succ f =>
      by_cases hg : u = false ∧ m ≤ n
      · obtain ⟨rfl, hc⟩ := hg
        refine Or.inl ⟨[], n, bs, h, rfl, rfl, hh, e1, e3, e2, e4, hc, ?_, ?_⟩
        · unfold f_Blk_firstFree_4
          exact ifn (top_le (by omega)) (bnd (freeAt_c hh e1 e3 e2) (ifn (show ¬ nI n < nI m from nI_nlt hc (by omega)) rfl))
        · unfold f_Mod_take_45 tkt
          exact ifn (top_le (by omega)) (bnd (isUsedAt_m H1 H2 H3 (by omega) (by omega) e2) (ifn (by decide) (bnd (sizeAt_m H1 H2 H3 (by omega) (by omega) e2) (ift (nI_le hc (by omega)) (ift hlt rfl)))))
      · have hx : (if u then 0 else n) < m := by
          cases u with
          | true => simp; omega
          | false => simp; exact Nat.not_le.mp (fun q => hg ⟨rfl, q⟩)
        have c1 : f_Blk_firstFree_4 N (mkC g own ps p true) (f + 1) (nI m) (nI h) = f_Blk_firstFree_4 N (mkC g own ps p true) f (nI m) (nI (h + 1 + n)) := by
          conv => lhs; unfold f_Blk_firstFree_4
          refine ifn (top_le (by omega)) (bnd (freeAt_c hh e1 e3 e2) (ift (nI_lt hx (by omega)) (bnd (sizeAt_c hh e1 e3 e2) ?_)))
          rw [nI_s1]
        have m1 : f_Mod_take_45 N (f + 1) (mkM d g (chgd ps) ch cn true us co la th) (nI m) (nI h) = f_Mod_take_45 N f (mkM d g (chgd ps) ch cn true us co la th) (nI m) (nI (h + 1 + n)) := by
          conv => lhs; unfold f_Mod_take_45
          refine ifn (top_le (by omega)) (bnd (isUsedAt_m H1 H2 H3 (by omega) (by omega) e2) ?_)
          cases u with
          | true =>
            refine ift rfl (bnd (sizeAt_m H1 H2 H3 (by omega) (by omega) e2) ?_)
            rw [nI_s2]
          | false =>
            refine ifn (by decide) (bnd (sizeAt_m H1 H2 H3 (by omega) (by omega) e2) (ifn (show ¬ nI m ≤ nI n from nI_ge (by simpa using hx) (by omega)) (bnd (sizeAt_m H1 H2 H3 (by omega) (by omega) e2) ?_)))
            rw [nI_s2]
        rw [c1, m1]
        rcases ih (h + 1 + n) f e4 (by omega) (by omega) with ⟨A, n', B, k, q1, q2, q3⟩ | q
        · exact Or.inl ⟨(n, u) :: A, n', B, k, by rw [q1]; rfl, ⟨e1, e2, q2⟩, q3⟩
        · exact Or.inr q
/-- a head of Java's making -/
theorem hd_t {n : Nat} (h : n < 2 ^ 31) : ((2 : Int64) * (nI n).toInt64) + (1 : Int64) = hd n true := by
  rw [nI_l h, show (2 : Int64) = lN 2 from rfl, show (1 : Int64) = lN 1 from rfl, lN_mul, lN_add]
  rfl
theorem hd_f {n : Nat} (h : n < 2 ^ 31) : ((2 : Int64) * (nI n).toInt64) = hd n false := by
  rw [nI_l h, show (2 : Int64) = lN 2 from rfl, lN_mul]
  rfl
theorem moreN_other {w r : Nat} {x y : Int64} (h : w ≠ r) : moreN (vp_updL own r y) (psN own ps r y) w x = moreN own ps w x := by
  unfold moreN
  rw [pk_uLn h]
  have : w ∈ psN own ps r y ↔ w ∈ ps := by
    unfold psN
    by_cases q : moreN own ps r y = 1
    · rw [if_pos q, mem_ins]
      exact ⟨fun z => z.resolve_left h, Or.inr⟩
    · rw [if_neg q]
  simp only [this]
end
