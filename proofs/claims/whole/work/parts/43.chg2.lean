/-! PURE SIDE 4: reading and changing a word, on both sides -/
section
variable {N : Nat} {d : DT} {g own : Nat → Int64} {ps : List Nat} {p : Nat → Int32} {ch : Nat → Int64} {o : Bool} {us co : Int32} {la : Int64} {th : Int32}
theorem read_c {c : Nat → Int32} {sz : Int32} {w : Nat} (hw : w < 1024) : f_Chg_read (g, own, c, p, sz, o) (nI w) = some (own w) := by
  unfold f_Chg_read
  refine bnd (isW hw) (ift rfl (ift (gI_nI hw (by omega)) ?_))
  rw [clN (by omega)]
theorem at_m {w : Nat} {n : Int32} (hw : w < 1024) (h1 : ownok g own ps) (h2 : chok own ch ps) (h3 : o = false → ps = []) : f_Mod_at (mkM d g (chgd ps) ch n o us co la th) (nI w) = some (own w) := by
  have hg := gI_nI hw (show 1024 < 2 ^ 31 by omega)
  unfold f_Mod_at
  cases o with
  | false =>
    refine ifn (by show ¬ false = true; decide) (ift hg ?_)
    rw [clN (by omega), h1 w (by rw [h3 rfl]; simp)]
  | true =>
    refine ift rfl (ift hg ?_)
    by_cases hm : w ∈ ps
    · refine ifn ?_ (ift hg ?_)
      · show ¬ chgd ps (nI w).toNatClampNeg = 0
        rw [clN (by omega), chgd_in hm]
        decide
      · show some (ch (nI w).toNatClampNeg) = _
        rw [clN (by omega), h2 w hm]
    · refine ift ?_ (ift hg ?_)
      · show chgd ps (nI w).toNatClampNeg = 0
        rw [clN (by omega), chgd_out hm]
      · show some (g (nI w).toNatClampNeg) = _
        rw [clN (by omega), h1 w hm]
/-- how many more words would have changes -/
def moreN (own : Nat → Int64) (ps : List Nat) (w : Nat) (x : Int64) : Nat := if w ∈ ps ∨ own w = x then 0 else 1
theorem cost_c {w : Nat} {x : Int64} (hw : w < 1024) : f_Chg_cost (mkC g own ps p o) (nI w) x = some (nI (moreN own ps w x)) := by
  have hg := gI_nI hw (show 1024 < 2 ^ 31 by omega)
  unfold f_Chg_cost moreN
  refine bnd (isW hw) (ift rfl (ift hg ?_))
  rw [clN (by omega)]
  by_cases hm : w ∈ ps
  · refine ifn ?_ ?_
    · show ¬ chgd ps w = 0
      rw [chgd_in hm]
      decide
    · rw [if_pos (Or.inl hm)]
      rfl
  · refine ift (chgd_out hm) (ift hg ?_)
    by_cases he : own w = x
    · refine ift ((lg_cmp_eq _ _).mpr he) ?_
      rw [if_pos (Or.inr he)]
      rfl
    · refine ifn (fun q => he ((lg_cmp_eq _ _).mp q)) ?_
      rw [if_neg (fun q => q.elim hm he)]
      rfl
theorem isMore_m {w : Nat} {x : Int64} {n : Int32} (hw : w < 1024) (h1 : ownok g own ps) : f_Mod_isMore (mkM d g (chgd ps) ch n o us co la th) (nI w) x = some (decide (moreN own ps w x = 1)) := by
  have hg := gI_nI hw (show 1024 < 2 ^ 31 by omega)
  unfold f_Mod_isMore moreN
  refine ift hg ?_
  by_cases hm : w ∈ ps
  · refine ifn ?_ ?_
    · show ¬ chgd ps (nI w).toNatClampNeg = 0
      rw [clN (by omega), chgd_in hm]
      decide
    · rw [if_pos (Or.inl hm)]
      rfl
  · refine ift ?_ (ift hg ?_)
    · show chgd ps (nI w).toNatClampNeg = 0
      rw [clN (by omega), chgd_out hm]
    · show (if lg_cmp (g (nI w).toNatClampNeg) x = 0 then some false else some true) = _
      rw [clN (by omega), ← h1 w hm]
      by_cases he : own w = x
      · refine ift ((lg_cmp_eq _ _).mpr he) ?_
        rw [if_pos (Or.inr he)]
        rfl
      · refine ifn (fun q => he ((lg_cmp_eq _ _).mp q)) ?_
        rw [if_neg (fun q => q.elim hm he)]
        rfl
theorem room_c {k : Nat} (hl : ps.length ≤ 96) (hk : k ≤ 2) : f_Chg_haveRoomFor (mkC g own ps p o) (nI k) = some (decide (ps.length + k ≤ 96)) := by
  unfold f_Chg_haveRoomFor
  show (if (96 : Int32) < nI ps.length + nI k then some false else some true) = _
  rw [nI_add]
  by_cases h : ps.length + k ≤ 96
  · rw [if_neg (show ¬ (96 : Int32) < nI (ps.length + k) from nI_nlt (b := ps.length + k) (a := 96) h (by omega)), decide_eq_true h]
  · rw [if_pos (show (96 : Int32) < nI (ps.length + k) from nI_lt (a := 96) (by omega) (by omega)), decide_eq_false h]
/-- the words with changes, when w has become x -/
def psN (own : Nat → Int64) (ps : List Nat) (w : Nat) (x : Int64) : List Nat := if moreN own ps w x = 1 then ins w ps else ps
theorem moreN_le (own : Nat → Int64) (ps : List Nat) (w : Nat) (x : Int64) : moreN own ps w x ≤ 1 := by
  unfold moreN
  split <;> omega
theorem moreN_1 {w : Nat} {x : Int64} (h : moreN own ps w x = 1) : w ∉ ps ∧ own w ≠ x := by
  unfold moreN at h
  by_cases q : w ∈ ps ∨ own w = x
  · rw [if_pos q] at h
    omega
  · exact ⟨fun z => q (Or.inl z), fun z => q (Or.inr z)⟩
theorem moreN_0 {w : Nat} {x : Int64} (h : ¬ moreN own ps w x = 1) : w ∈ ps ∨ own w = x := by
  unfold moreN at h
  by_cases q : w ∈ ps ∨ own w = x
  · exact q
  · rw [if_neg q] at h
    exact absurd rfl h
theorem psN_len (own : Nat → Int64) (ps : List Nat) (w : Nat) (x : Int64) : (psN own ps w x).length = ps.length + moreN own ps w x := by
  unfold psN
  by_cases h : moreN own ps w x = 1
  · rw [if_pos h, len_ins, h]
  · have := moreN_le own ps w x
    rw [if_neg h, show moreN own ps w x = 0 by omega]
    rfl
theorem psok_N {w : Nat} {x : Int64} (h : psok ps) (hw : w < 1024) (hl : ps.length + moreN own ps w x ≤ 96) : psok (psN own ps w x) := by
  unfold psN
  by_cases h1 : moreN own ps w x = 1
  · rw [if_pos h1]
    exact psok_ins h hw (moreN_1 h1).1 (by omega)
  · rw [if_neg h1]
    exact h
theorem ownok_N {w : Nat} {x : Int64} (h : ownok g own ps) : ownok g (vp_updL own w x) (psN own ps w x) := by
  intro j hj
  unfold psN at hj
  by_cases h1 : moreN own ps w x = 1
  · rw [if_pos h1] at hj
    have : j ≠ w := fun q => hj (mem_ins.mpr (Or.inl q))
    rw [pk_uLn this]
    exact h j (fun q => hj (mem_ins.mpr (Or.inr q)))
  · rw [if_neg h1] at hj
    by_cases e : j = w
    · subst e
      rw [pk_uLs]
      rcases moreN_0 h1 with q | q
      · exact absurd q hj
      · rw [← q]
        exact h j hj
    · rw [pk_uLn e]
      exact h j hj
theorem change_no {w : Nat} {x : Int64} (hw : w < 1024) (hl : ps.length ≤ 96) (hf : ¬ ps.length + moreN own ps w x ≤ 96) : f_Chg_change N (mkC g own ps p o) (nI w) x = some (false, mkC g own ps p o) := by
  unfold f_Chg_change
  refine bnd (cost_c hw) (bnd (isW hw) (ift rfl (bnd (room_c hl (by have := moreN_le own ps w x; omega)) (ifn ?_ rfl))))
  simp [hf]
theorem change_yes {w : Nat} {x : Int64} (hw : w < 1024) (hs : psok ps) (hp : Pl p ps) (hN : 96 < N) (hf : ps.length + moreN own ps w x ≤ 96) : ∃ p', f_Chg_change N (mkC g own ps p o) (nI w) x = some (true, mkC g (vp_updL own w x) (psN own ps w x) p' o) ∧ Pl p' (psN own ps w x) := by
  have hg := gI_nI hw (show 1024 < 2 ^ 31 by omega)
  by_cases h1 : moreN own ps w x = 1
  · obtain ⟨p', e1, e2⟩ := insl_c (N := N) g own (chgd (ins w ps)) (nI ps.length) o hw N ps [] p (by have := hs.2.2; omega) (by simp only [List.length_nil]; omega) hs.2.1 (by simp) hs.1 (moreN_1 h1).1 hp (by simp)
    rw [List.append_nil] at e2
    refine ⟨p', ?_, by unfold psN; rw [if_pos h1]; exact e2⟩
    unfold f_Chg_change
    refine bnd (cost_c hw) (bnd (isW hw) (ift rfl (bnd (room_c hs.2.2 (by omega)) (ift (by simpa using hf) (ifn ?_ (ift hg (bnd (x := (g, own, chgd (ins w ps), p', nI ps.length + 1, o)) ?_ (ift hg ?_))))))))
    · rw [h1]
      decide
    · unfold f_Chg_insert
      refine ift (show nI ps.length < (96 : Int32) from nI_lt (b := 96) (by omega) (by omega)) ?_
      show f_Chg_insert_15 N N (g, own, upd (chgd ps) (nI w).toNatClampNeg (vp_nar .boolean (1 : Int32)), p, nI ps.length, o) (nI w) (nI ps.length) = _
      rw [clN (by omega), chgd_ins]
      exact e1
    · show some (true, (g, vp_updL own (nI w).toNatClampNeg x, chgd (ins w ps), p', nI ps.length + 1, o)) = _
      rw [clN (by omega), nI_1]
      unfold psN
      rw [if_pos h1]
      show _ = some (true, g, vp_updL own w x, chgd (ins w ps), p', nI (ins w ps).length, o)
      rw [len_ins]
  · refine ⟨p, ?_, by unfold psN; rw [if_neg h1]; exact hp⟩
    have h0 : moreN own ps w x = 0 := by have := moreN_le own ps w x; omega
    unfold f_Chg_change
    refine bnd (cost_c hw) (bnd (isW hw) (ift rfl (bnd (room_c hs.2.2 (by omega)) (ift (by simpa using hf) (ift ?_ (ift hg ?_))))))
    · rw [h0]
      decide
    · rw [clN (by omega)]
      unfold psN
      rw [if_neg h1]
theorem become_m {w : Nat} {x : Int64} (hw : w < 1024) (h1 : ownok g own ps) (h2 : chok own ch ps) : ∃ ch', f_Mod_become (mkM d g (chgd ps) ch (nI ps.length) o us co la th) (nI w) x = some (mkM d g (chgd (psN own ps w x)) ch' (nI (psN own ps w x).length) o us co la th) ∧ chok (vp_updL own w x) ch' (psN own ps w x) := by
  have hg := gI_nI hw (show 1024 < 2 ^ 31 by omega)
  have hcl : (nI w).toNatClampNeg = w := clN (by omega)
  by_cases hm : w ∈ ps
  · have h0 : ¬ moreN own ps w x = 1 := by unfold moreN; rw [if_pos (Or.inl hm)]; omega
    refine ⟨vp_updL ch w x, ?_, ?_⟩
    · have hc : ¬ chgd ps (nI w).toNatClampNeg = 0 := by rw [hcl, chgd_in hm]; decide
      unfold f_Mod_become
      refine ift hg (ifn hc (ift hg (ifn hc (ift hg (ift hg ?_)))))
      unfold psN
      rw [if_neg h0, hcl]
      have e : upd (chgd ps) w (vp_nar .boolean (1 : Int32)) = chgd ps := by
        funext j
        unfold upd
        by_cases q : j = w
        · subst q
          rw [if_pos rfl, chgd_in hm]
          decide
        · rw [if_neg q]
      show some (d.1, d.2.1, d.2.2.1, d.2.2.2.1, d.2.2.2.2.1, g, upd (chgd ps) w (vp_nar .boolean (1 : Int32)), vp_updL ch w x, nI ps.length + 0, _) = _
      rw [e, Int32.add_zero]
    · unfold psN
      rw [if_neg h0]
      intro j hj
      by_cases q : j = w
      · subst q
        rw [pk_uLs, pk_uLs]
      · rw [pk_uLn q, pk_uLn q]
        exact h2 j hj
  · have hc : chgd ps (nI w).toNatClampNeg = 0 := by rw [hcl, chgd_out hm]
    have eo := h1 w hm
    by_cases he : own w = x
    · have h0 : ¬ moreN own ps w x = 1 := by unfold moreN; rw [if_pos (Or.inr he)]; omega
      refine ⟨ch, ?_, ?_⟩
      · unfold f_Mod_become
        refine ift hg (ift hc (ift hg (ift ?_ ?_)))
        · show lg_cmp (g (nI w).toNatClampNeg) x = 0
          rw [hcl, ← eo]
          exact (lg_cmp_eq _ _).mpr he
        · unfold psN
          rw [if_neg h0]
      · unfold psN
        rw [if_neg h0]
        intro j hj
        have q : j ≠ w := fun q => hm (q ▸ hj)
        rw [pk_uLn q]
        exact h2 j hj
    · have h0 : moreN own ps w x = 1 := by unfold moreN; rw [if_neg (fun q => q.elim hm he)]
      refine ⟨vp_updL ch w x, ?_, ?_⟩
      · unfold f_Mod_become
        refine ift hg (ift hc (ift hg (ifn ?_ (ift hg (ift hc (ift hg (ift hg ?_)))))))
        · show ¬ lg_cmp (g (nI w).toNatClampNeg) x = 0
          rw [hcl, ← eo]
          exact fun q => he ((lg_cmp_eq _ _).mp q)
        · unfold psN
          rw [if_pos h0, hcl]
          show some (d.1, d.2.1, d.2.2.1, d.2.2.2.1, d.2.2.2.2.1, g, upd (chgd ps) w (vp_nar .boolean (1 : Int32)), vp_updL ch w x, nI ps.length + 1, _) = _
          rw [chgd_ins, nI_1, len_ins]
      · unfold psN
        rw [if_pos h0]
        intro j hj
        by_cases q : j = w
        · subst q
          rw [pk_uLs, pk_uLs]
        · rw [pk_uLn q, pk_uLn q]
          exact h2 j ((mem_ins.mp hj).resolve_left q)
theorem try_no {w : Nat} {x : Int64} (hw : w < 1024) (h1 : ownok g own ps) (hl : ps.length ≤ 96) (hf : ¬ ps.length + moreN own ps w x ≤ 96) : f_Mod_tryOne (mkM d g (chgd ps) ch (nI ps.length) o us co la th) (nI w) x = some (false, mkM d g (chgd ps) ch (nI ps.length) o us co la th) := by
  have := moreN_le own ps w x
  unfold f_Mod_tryOne
  refine bnd (isMore_m hw h1) (ift (by simp; omega) (ift ?_ rfl))
  show nI ps.length = (96 : Int32)
  rw [show ps.length = 96 by omega]
  rfl
theorem try_yes {w : Nat} {x : Int64} (hw : w < 1024) (h1 : ownok g own ps) (h2 : chok own ch ps) (hl : ps.length ≤ 96) (hf : ps.length + moreN own ps w x ≤ 96) : ∃ ch', f_Mod_tryOne (mkM d g (chgd ps) ch (nI ps.length) o us co la th) (nI w) x = some (true, mkM d g (chgd (psN own ps w x)) ch' (nI (psN own ps w x).length) o us co la th) ∧ chok (vp_updL own w x) ch' (psN own ps w x) := by
  obtain ⟨ch', e1, e2⟩ := become_m (d := d) (o := o) (us := us) (co := co) (la := la) (th := th) (x := x) hw h1 h2
  refine ⟨ch', ?_, e2⟩
  unfold f_Mod_tryOne
  refine bnd (isMore_m hw h1) ?_
  by_cases h : moreN own ps w x = 1
  · refine ift (by simpa using h) (ifn ?_ (bnd e1 rfl))
    show ¬ nI ps.length = (96 : Int32)
    exact fun q => by
      have := (nI_eq (a := ps.length) (b := 96) (by omega) (by omega)).mp q
      omega
  · exact ifn (by simpa using h) (bnd e1 rfl)
end
