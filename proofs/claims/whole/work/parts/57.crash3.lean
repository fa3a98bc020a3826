/-! PURE SIDE 18: what a loss of power leaves of a commit, of the formatting -/
theorem EntAt_lent : ∀ {l : List (Nat × Int64)} {m : Nat → Int64} {q : Nat}, EntAt (app m (lent q l)) q l
  | [], _, _ => trivial
  | e :: l, m, q => by
    have h : app m (lent q (e :: l)) = app (vp_updL (vp_updL m q (lN e.1)) (q + 1) e.2) (lent (q + 2) l) := rfl
    rw [h]
    refine ⟨?_, ?_, EntAt_lent⟩
    · rw [app_other (fun x hx z => by have := lent_mem hx; omega), pk_uLn (by omega), pk_uLs]
    · rw [app_other (fun x hx z => by have := lent_mem hx; omega), pk_uLs]
theorem app_ents {m own : Nat → Int64} {j : Nat} : ∀ {ps : List Nat}, app m (ents own ps) j = if j ∈ ps then own j else m j := by
  intro ps
  induction ps generalizing m with
  | nil => exact (if_neg (by simp)).symm
  | cons a l ih =>
    show app (vp_updL m a (own a)) (ents own l) j = _
    rw [ih]
    by_cases h : j ∈ l
    · rw [if_pos h, if_pos (List.mem_cons_of_mem _ h)]
    · rw [if_neg h]
      by_cases q : j = a
      · subst q; rw [pk_uLs, if_pos List.mem_cons_self]
      · rw [pk_uLn q, if_neg (fun z => (List.mem_cons.mp z).elim q h)]
section
variable {d : DT} {w t g la : Nat} {cs : List Com} {gd own : Nat → Int64} {ps : List Nat} {bs : List (Nat × Bool)}
theorem append_spec (ht : t < 2 ^ 30) (h : OnD d w (Rec t)) (hw : w ≤ 160) (hR : RecF t d.2.1 g cs) (hz : ∀ j, 16 + lsz cs ≤ j → j < 176 → d.2.1 j = 0) (hla : la ≤ t) (hs : psok ps) (hr : pshr ps) (h1 : 1 ≤ ps.length) (hroom : lsz cs + (2 + 2 * ps.length) ≤ 160) (hg : ∀ j, (j = 1 ∨ 176 ≤ j) → j < 1024 → gd j = app d.2.1 (flat cs) j) (ho : ownok gd own ps) (hS : Seg own 176 bs 1024) : ((sWrites d (apl d.2.1 (16 + lsz cs) (ents own ps) (la + 1))).1 = true ∧ OnD (sWrites d (apl d.2.1 (16 + lsz cs) (ents own ps) (la + 1))).2 (w + (2 + 2 * ps.length)) (Rec (t + 1)) ∧ RecF (t + 1) (sWrites d (apl d.2.1 (16 + lsz cs) (ents own ps) (la + 1))).2.2.1 g (cs ++ [(ents own ps, la + 1)]) ∧ (∀ j, 16 + lsz (cs ++ [(ents own ps, la + 1)]) ≤ j → j < 176 → (sWrites d (apl d.2.1 (16 + lsz cs) (ents own ps) (la + 1))).2.2.1 j = 0) ∧ ∀ j, (j = 1 ∨ 176 ≤ j) → j < 1024 → own j = app (sWrites d (apl d.2.1 (16 + lsz cs) (ents own ps) (la + 1))).2.2.1 (flat (cs ++ [(ents own ps, la + 1)])) j) ∨ ((sWrites d (apl d.2.1 (16 + lsz cs) (ents own ps) (la + 1))).1 = false ∧ OffD (sWrites d (apl d.2.1 (16 + lsz cs) (ents own ps) (la + 1))).2 (Rec (t + 1))) := by
  have hgt : g ≤ t + 1 := hR.2.1
  have hl96 := hs.2.2
  have hfk : ∀ e ∈ flat cs, e.1 < 1024 ∧ (e.1 = 1 ∨ 176 ≤ e.1) := flat_ok (fun c hc => (hR.2.2.2.2.1 c hc).1)
  have hLm : ∀ e ∈ apl d.2.1 (16 + lsz cs) (ents own ps) (la + 1), 16 + lsz cs ≤ e.1 ∧ e.1 < 16 + lsz cs + (2 + 2 * ps.length) := fun e he => by
    have := apl_mem he
    rw [ents_len] at this
    exact this
  have hLl : (apl d.2.1 (16 + lsz cs) (ents own ps) (la + 1)).length = 2 + 2 * ps.length := by rw [apl_len, ents_len]
  have hF : 4096 * d.2.1 0 + lN ps.length = lN (4096 * g + ps.length) := by rw [hR.2.2.1, show (4096 : Int64) = lN 4096 from rfl, lN_mul, lN_add]
  have hLe : apl d.2.1 (16 + lsz cs) (ents own ps) (la + 1) = (16 + lsz cs, lN (4096 * g + ps.length)) :: (lent (16 + lsz cs + 1) (ents own ps) ++ [(16 + lsz cs + 1 + 2 * ps.length, (-1 : Int64) - lN (la + 1))]) := by
    unfold apl
    rw [ents_len, hF]
  have hlen := lent_len (ents own ps) (16 + lsz cs + 1)
  rw [ents_len] at hlen
  have hflen := flat_len (cs := cs)
  generalize hL : apl d.2.1 (16 + lsz cs) (ents own ps) (la + 1) = L at *
  -- states before the commit's last word
  have hA : ∀ l', (∀ e ∈ l', 16 + lsz cs ≤ e.1 ∧ e.1 < 176) → NF (app d.2.1 l') (16 + lsz cs) → RecF t (app d.2.1 l') g cs := fun l' hl' hNF => by
    have hne : ∀ j, j < 16 + lsz cs ∨ 176 ≤ j → app d.2.1 l' j = d.2.1 j := fun j q => app_other (fun e he z => by have := hl' e he; omega)
    obtain ⟨a1, a2, a3, a4, a5, a6, a7, ⟨n, a8, a9⟩, bs0, a10⟩ := hR
    refine ⟨a1, a2, by rw [hne 0 (by omega)]; exact a3, LogAt_congr a4 (fun j q1 q2 => hne j (by omega)), a5, a6, Or.inr hNF, ⟨n, a8, by rw [hne 2 (by omega)]; exact a9⟩, bs0, Seg_congr a10 (fun j q1 q2 => app_same (hne j (by omega)))⟩
  have hB : ∀ i, i < 2 + 2 * ps.length → RecF t (app d.2.1 (L.take i)) g cs := fun i hi => by
    by_cases q : i = 0
    · subst q
      exact hR
    · obtain ⟨i, rfl⟩ : ∃ k, i = k + 1 := ⟨i - 1, by omega⟩
      have et : L.take (i + 1) = (16 + lsz cs, lN (4096 * g + ps.length)) :: (lent (16 + lsz cs + 1) (ents own ps)).take i := by
        rw [hLe]
        show _ :: List.take i _ = _
        rw [List.take_append_of_le_length (by omega)]
      refine hA _ (fun e he => ?_) ?_
      · have := hLm e (List.mem_of_mem_take he)
        exact ⟨this.1, by omega⟩
      · rw [et]
        have hmem : ∀ e ∈ (lent (16 + lsz cs + 1) (ents own ps)).take i, 16 + lsz cs + 1 ≤ e.1 ∧ e.1 < 16 + lsz cs + 1 + 2 * ps.length := fun e he => by
          have := lent_mem (List.mem_of_mem_take he)
          rw [ents_len] at this
          exact this
        show NF (app (vp_updL d.2.1 (16 + lsz cs) (lN (4096 * g + ps.length))) ((lent (16 + lsz cs + 1) (ents own ps)).take i)) (16 + lsz cs)
        have z0 : app (vp_updL d.2.1 (16 + lsz cs) (lN (4096 * g + ps.length))) ((lent (16 + lsz cs + 1) (ents own ps)).take i) 0 = lN g := by
          rw [app_other (fun e he z => by have := hmem e he; omega), pk_uLn (by omega)]
          exact hR.2.2.1
        have zp : app (vp_updL d.2.1 (16 + lsz cs) (lN (4096 * g + ps.length))) ((lent (16 + lsz cs + 1) (ents own ps)).take i) (16 + lsz cs) = lN (4096 * g + ps.length) := by
          rw [app_other (fun e he z => by have := hmem e he; omega), pk_uLs]
        refine Or.inr (Or.inr ⟨ps.length, h1, hl96, dv_of z0 zp, Or.inr ?_⟩)
        rw [app_other (fun e he z => by have := hmem e he; omega), pk_uLn (by omega), hz _ (by omega) (by omega)]
        decide
  have eL : app d.2.1 L = vp_updL (app (vp_updL d.2.1 (16 + lsz cs) (lN (4096 * g + ps.length))) (lent (16 + lsz cs + 1) (ents own ps))) (16 + lsz cs + 1 + 2 * ps.length) ((-1 : Int64) - lN (la + 1)) := by
    rw [hLe]
    show app (vp_updL d.2.1 (16 + lsz cs) (lN (4096 * g + ps.length))) (lent (16 + lsz cs + 1) (ents own ps) ++ _) = _
    rw [app_app]
    rfl
  have hne : ∀ j, j < 16 + lsz cs ∨ 16 + lsz cs + (2 + 2 * ps.length) ≤ j → app d.2.1 L j = d.2.1 j := fun j q => app_other (fun e he z => by have := hLm e he; omega)
  have hmem : ∀ e ∈ lent (16 + lsz cs + 1) (ents own ps), 16 + lsz cs + 1 ≤ e.1 ∧ e.1 < 16 + lsz cs + 1 + 2 * ps.length := fun e he => by
    have := lent_mem he
    rw [ents_len] at this
    exact this
  have hsz : lsz (cs ++ [(ents own ps, la + 1)]) = lsz cs + (2 + 2 * ps.length) := by
    rw [lsz_app]
    show lsz cs + (2 + 2 * (ents own ps).length + 0) = _
    rw [ents_len, Nat.add_zero]
  have hfl : flat (cs ++ [(ents own ps, la + 1)]) = flat cs ++ ents own ps := by
    rw [flat_app]
    show flat cs ++ (ents own ps ++ []) = _
    rw [List.append_nil]
  have hown : ∀ j, (j = 1 ∨ 176 ≤ j) → j < 1024 → own j = app (app d.2.1 L) (flat (cs ++ [(ents own ps, la + 1)])) j := fun j q1 q2 => by
    rw [hfl, app_app, app_ents]
    by_cases q : j ∈ ps
    · rw [if_pos q]
    · rw [if_neg q, ho j q, hg j q1 q2]
      exact app_same (hne j (by omega)).symm
  have z0 : app d.2.1 L 0 = lN g := by rw [hne 0 (by omega)]; exact hR.2.2.1
  have hz2 : ∀ j, 16 + lsz (cs ++ [(ents own ps, la + 1)]) ≤ j → j < 176 → app d.2.1 L j = 0 := fun j q1 q2 => by
    rw [hsz] at q1
    rw [hne j (by omega)]
    exact hz j (by omega) q2
  have hC : RecF (t + 1) (app d.2.1 L) g (cs ++ [(ents own ps, la + 1)]) := by
    obtain ⟨a1, a2, a3, a4, a5, a6, a7, ⟨n, a8, a9⟩, bs0, a10⟩ := hR
    refine ⟨a1, by omega, z0, LogAt_app.mpr ⟨LogAt_congr a4 (fun j q1 q2 => hne j (by omega)), ⟨?_, ?_, ?_⟩, trivial⟩, ?_, by omega, ?_, ⟨n, by omega, by rw [hne 2 (by omega)]; exact a9⟩, bs, Seg_congr hS (fun j q1 q2 => (hown j (by omega) q2).symm)⟩
    · show app d.2.1 L (16 + lsz cs) = lN (4096 * g + (ents own ps).length)
      rw [eL, pk_uLn (by omega), app_other (fun e he z => by have := hmem e he; omega), pk_uLs, ents_len]
    · refine EntAt_congr EntAt_lent (m := app (vp_updL d.2.1 (16 + lsz cs) (lN (4096 * g + ps.length))) (lent (16 + lsz cs + 1) (ents own ps))) (fun j q1 q2 => ?_)
      have : j < 16 + lsz cs + 1 + 2 * (ents own ps).length := q2
      rw [ents_len] at this
      rw [eL, pk_uLn (by omega)]
    · show app d.2.1 L (16 + lsz cs + 1 + 2 * (ents own ps).length) = (-1 : Int64) - lN (la + 1)
      rw [ents_len, eL, pk_uLs]
    · intro c hc
      rcases List.mem_append.mp hc with y | y
      · exact ⟨(a5 c y).1, by have := (a5 c y).2; omega⟩
      · rcases List.mem_cons.mp y with y | y
        · subst y
          refine ⟨⟨by show 1 ≤ (ents own ps).length; rw [ents_len]; exact h1, fun e he => ?_⟩, by show la + 1 ≤ t + 1; omega⟩
          obtain ⟨x, hx, rfl⟩ := List.mem_map.mp he
          exact ⟨hs.2.1 x hx, hr x hx⟩
        · cases y
    · by_cases q : 16 + lsz (cs ++ [(ents own ps, la + 1)]) = 176
      · exact Or.inl q
      · exact Or.inr (NF_zero z0 (by omega) (hz2 _ (Nat.le_refl _) (by omega)))
  rcases writes_spec (P := Rec (t + 1)) L d w (h.mono Rec_mono) (fun e he => by have := hLm e he; omega) (by omega) (fun i hi => by
    by_cases q : i < 2 + 2 * ps.length
    · exact Rec_of (RecF_mono (hB i q))
    · rw [List.take_of_length_le (by omega)]
      exact Rec_of hC) with ⟨a1, a2, a3⟩ | ⟨a1, a2⟩
  · rw [hLl] at a2
    refine Or.inl ⟨a1, a2, ?_, ?_, ?_⟩
    · rw [a3]; exact hC
    · rw [a3]; exact hz2
    · rw [a3]; exact hown
  · exact Or.inr ⟨a1, a2⟩
/-- the formatting's words -/
def fmtW : List (Nat × Int64) := [(176, 1694), (1, 0), (0, 1)]
theorem format_spec (h : OnD d 0 (Rec t)) (hU : Unf d.2.1) : ((sWrites d fmtW).1 = true ∧ OnD (sSync (sWrites d fmtW).2) 0 (Rec (t + 1)) ∧ RecF (t + 1) (sSync (sWrites d fmtW).2).2.1 1 [] ∧ (∀ j, 16 ≤ j → j < 176 → (sSync (sWrites d fmtW).2).2.1 j = 0) ∧ (sSync (sWrites d fmtW).2).2.1 2 = 0) ∨ ((sWrites d fmtW).1 = false ∧ OffD (sWrites d fmtW).2 (Rec (t + 1))) := by
  obtain ⟨u0, u2, u3⟩ := hU
  have hC : RecF (t + 1) (app d.2.1 fmtW) 1 [] := by
    have z0 : app d.2.1 fmtW 0 = lN 1 := by
      show vp_updL (vp_updL (vp_updL d.2.1 176 1694) 1 0) 0 1 0 = _
      rw [pk_uLs]; rfl
    have z16 : app d.2.1 fmtW 16 = 0 := by
      show vp_updL (vp_updL (vp_updL d.2.1 176 1694) 1 0) 0 1 16 = _
      rw [pk_uLn (by omega), pk_uLn (by omega), pk_uLn (by omega)]
      exact u3 16 (by omega) (by omega)
    refine ⟨by omega, by omega, z0, trivial, fun c hc => (by cases hc), by show 16 + 0 ≤ 176; omega, Or.inr (NF_zero z0 (by omega) z16), ⟨0, by omega, ?_⟩, [(847, false)], by omega, ?_, by show 176 + 1 + 847 = 1024; omega⟩
    · show vp_updL (vp_updL (vp_updL d.2.1 176 1694) 1 0) 0 1 2 = _
      rw [pk_uLn (by omega), pk_uLn (by omega), pk_uLn (by omega), u2]; rfl
    · show vp_updL (vp_updL (vp_updL d.2.1 176 1694) 1 0) 0 1 176 = _
      rw [pk_uLn (by omega), pk_uLn (by omega), pk_uLs]; rfl
  have hk : ∀ e ∈ fmtW, e.1 < 1024 := by decide
  have hU1 : Unf (vp_updL d.2.1 176 1694) := ⟨by rw [pk_uLn (by omega)]; exact u0, by rw [pk_uLn (by omega)]; exact u2, fun j q1 q2 => by rw [pk_uLn (by omega)]; exact u3 j q1 q2⟩
  have hU2 : Unf (vp_updL (vp_updL d.2.1 176 1694) 1 0) := ⟨by rw [pk_uLn (by omega)]; exact hU1.1, by rw [pk_uLn (by omega)]; exact hU1.2.1, fun j q1 q2 => by rw [pk_uLn (by omega)]; exact hU1.2.2 j q1 q2⟩
  rcases writes_spec (P := Rec (t + 1)) fmtW d 0 (h.mono Rec_mono) hk (by decide) (fun i hi => by
    match i, hi with
    | 0, _ => exact Rec_un ⟨u0, u2, u3⟩
    | 1, _ => exact Rec_un hU1
    | 2, _ => exact Rec_un hU2
    | 3, _ => exact Rec_of hC
    | i + 4, hi => have : i + 4 ≤ 3 := hi; omega) with ⟨a1, a2, a3⟩ | ⟨a1, a2⟩
  · obtain ⟨b1, b2⟩ := sync_on a2 (by show 0 + 3 ≤ 320; omega)
    refine Or.inl ⟨a1, b1, ?_, ?_, ?_⟩
    · rw [b2, a3]; exact hC
    · intro j q1 q2
      rw [b2, a3]
      show vp_updL (vp_updL (vp_updL d.2.1 176 1694) 1 0) 0 1 j = _
      rw [pk_uLn (by omega)]
      exact hU2.2.2 j q1 q2
    · rw [b2, a3]
      show vp_updL (vp_updL (vp_updL d.2.1 176 1694) 1 0) 0 1 2 = _
      rw [pk_uLn (by omega)]
      exact hU2.2.1
  · exact Or.inr ⟨a1, a2⟩
end
