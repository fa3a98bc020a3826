/-! PURE SIDE 26: open, both sides -/
section
variable {N L : Nat} {xs : Nat → Int32} {t : Nat} {vL : LT} {d : DT} {g own ch : Nat → Int64} {ps : List Nat} {p : Nat → Int32} {o : Bool} {w gn lan : Nat} {cs : List Com} {th : Int32} {us co : Int32} {la : Int64} {vO : Nat → Int64} {i : Nat} {y4 : Int32} {v : Nat → Int64} {ic : Nat → Int32} {cn : Int32}
theorem open_on (A : On t d g own ch ps p o w gn lan cs) : ∃ u, fc_open N L xs (sL cs lan) d (mkC g own ps p o) (sM d g ch ps o cs lan th) vO y4 = some u ∧ Inv (t + 1) u.1 u.2.1 u.2.2.1 u.2.2.2.1 := by
  have h1 : f_Law_open N (sL cs lan) d (mkC g own ps p o) vO = some ((1 : Int32), sL cs lan, d, mkC g own ps p o, vO) := gHe (bnd rfl (ift A.on rfl)) (ift rfl rfl)
  have h2 : f_Mod_open N (sM d g ch ps o cs lan th) = some ((0 : Int32), sM d g ch ps o cs lan 1) := ift A.on rfl
  exact ⟨_, bnd h1 (bnd h2 (bnd rfl (eT rfl n1))), kOn A⟩
/-- the words loaded: both sides, and what holds then -/
theorem load_both {D : DT} (hN : 2000 < N) (hx : ∀ j, 1024 ≤ j → own j = g j) {y1 : Int32} (hS : ∃ bs, Seg D.2.1 176 bs 1024) (h2 : D.2.1 2 = lN lan) (hL : ∀ g' : Nat → Int64, (∀ j, (j = 1 ∨ 176 ≤ j) → j < 1024 → g' j = D.2.1 j) → LgOn t D w gn lan [] g') : f_Chg_load N D (mkC g own [] p false) = some (mkC (upto D.2.1 g 1024) (upto D.2.1 g 1024) [] p false) ∧ f_Mod_open_181 N N (mkM D g (chgd []) ch (nI ([] : List Nat).length) false 0 0 la th) y1 (0 : Int32) = some (y1, sM D (upto D.2.1 g 1024) ch [] false [] lan th) ∧ On t D (upto D.2.1 g 1024) (upto D.2.1 g 1024) ch [] p false w gn lan [] := by
  refine ⟨load_c (by omega) hx, ?_, ?_⟩
  · have h := view_m (N := N) (d := D) (v := g) (ic := chgd []) (ch := ch) (cn := nI ([] : List Nat).length) (o := false) (us := 0) (co := 0) (la := la) (th := th) (y1 := y1) 1024 N 0 (by omega) (by omega)
    rw [upto_0, h2] at h
    exact h
  · obtain ⟨bs, hS⟩ := hS
    refine ⟨⟨⟨fun _ _ => rfl, fun _ h => (by cases h), fun _ => rfl⟩, psok_nil, fun j x h => (by cases h), fun x h => (by cases h)⟩, ⟨bs, Seg_congr hS (fun j q1 q2 => if_pos q2)⟩, hL _ (fun j q1 q2 => if_pos q2)⟩
/-- OPEN, the power being off: both sides -/
theorem open_both (hN : 2000 < N) (ht : t < 2 ^ 30) (A : Off t d g own) : ∃ x vL' D vC' M', f_Heap_open N vL d (mkC g own [] p false) = some (.ok (x, vL', D, vC')) ∧ f_Mod_open N (sX d g ch us co la th) = some (x, M') ∧ M'.2.2.2.2.2.2.2.2.2.2.2.2.2.2.2.2.2.2.2.2 = 0 ∧ Inv (t + 1) vL' D vC' M' := by
  have hfe : ¬ (false = true) := Bool.false_ne_true
  have hof : ¬ d.2.2.2.2.2.1 = true := by rw [A.off]; decide
  have hU := up_on A.2
  have hdr := drop_m (N := N) (sUp d) g (chgd []) ch (nI ([] : List Nat).length) false us co la 0 (by omega)
  rw [icz_nil psok_nil] at hdr
  have hm : (sUp d).2.1 = d.2.1 := rfl
  rcases A.2.2.2.2 with hun | ⟨gn, cs, hR⟩
  · have hz0 : lg_cmp (d.2.1 0) 0 = 0 := (lg_cmp_eq _ _).mpr hun.1
    have hc := fmt_c (vL := vL) hN hU
    have hM : f_Mod_open N (sX d g ch us co la th) = fmtM N (mkM (sUp d) g (chgd []) ch 0 false 0 0 la 0) := ifn hof (bnd hdr (ift (by decide) (ift hz0 rfl)))
    have hm2 := hM.trans (fmt_m hN hU)
    rcases format_spec (t := t) hU hun with ⟨a1, a2, a3, a4, a5⟩ | ⟨a1, a2⟩
    · rw [if_pos a1] at hc hm2
      generalize sSync (sWrites (sUp d) fmtW).2 = D at *
      obtain ⟨l1, l2, l3⟩ := load_both (N := N) (p := p) (own := own) (g := g) (ch := ch) (la := la) (th := 0) (y1 := 0) (t := t + 1) (D := D) (w := 0) (gn := 1) (lan := 0) hN A.1 a3.2.2.2.2.2.2.2.2 a5 (fun g' hg' => ⟨a2, Nat.le_refl _, a3, a4, a5, Nat.zero_le _, hg'⟩)
      rw [a5] at hc
      exact ⟨_, _, _, _, _, bnd rfl (ifn hof (bnd rfl (bnd (dread_c (w := 0) (by omega)) (ift hz0 (bnd hc (bnd rfl (ift a2.2.1 (bnd l1 rfl)))))))), hm2.trans l2, rfl, iOn l3⟩
    · rw [if_neg (by rw [a1]; decide)] at hc hm2
      rw [icz_nil psok_nil] at hm2
      exact ⟨_, _, _, _, _, bnd rfl (ifn hof (bnd rfl (bnd (dread_c (w := 0) (by omega)) (ift hz0 (bnd hc (bnd rfl (ifn (by show ¬ (sWrites (sUp d) fmtW).2.2.2.2.2.2.1 = true; rw [a2.2.1]; decide) rfl))))))), hm2, rfl, iOff ⟨A.1, a2⟩⟩
  · have hR' : RecF t d.2.1 gn cs := hR
    have hgn := hR'.2.1
    have hg1 := hR'.1
    have hls := hR'.2.2.2.2.2.1
    have hlo : LogOk (sUp d).2.1 gn 16 cs := RecF_ok hR' ht
    have hlen := flat_len (cs := cs)
    have hz0 : ¬ lg_cmp (d.2.1 0) 0 = 0 := fun z => by
      have := (lg_cmp_eq _ _).mp z
      rw [hR'.2.2.1, show (0 : Int64) = lN 0 from rfl, pk_lEQ (by omega) (by omega)] at this
      omega
    obtain ⟨lan, hlan, hlast⟩ := lastN_le (cs := cs) hR'.2.2.2.2.2.2.2.1 (fun c hc => (hR'.2.2.2.2.1 c hc).2)
    have hfc := find_c (N := N) (vL := vL) (by omega) hlo (by omega) hR'.2.2.2.2.2.2.1
    rw [hm, hlast, lN_i] at hfc
    have hdc := dirty_c (N := N) (d := sUp d) (vL := (nI (lsz cs), nI cs.length, nI lan)) 160 N (by omega) (by omega)
    have hdl := dw_le d.2.1 160
    have hdz := dw_z d.2.1 160
    have hfm := fnd10 (N := N) (v := g) (ic := chgd []) (ch := ch) (cn := 0) (o := false) (us := 0) (la := la) (th := 0) (g := gn) (by omega) cs 16 0 N hlo (by omega) (by omega) hR'.2.2.2.2.2.2.1 (by omega)
    rw [Nat.zero_add, show 16 + lsz cs - 16 = lsz cs by omega] at hfm
    have hdm := dirty_m (N := N) (d := sUp d) (v := g) (ic := chgd []) (ch := ch) (cn := 0) (o := false) (us := 0) (co := nI cs.length) (la := la) (th := 0) (y1 := nI cs.length) (y2 := nI (lsz cs)) 160 N 0 (by omega) (by omega)
    have hM : f_Mod_open N (sX d g ch us co la th) = f_Mod_open_115 N N (mkM (sUp d) g (chgd []) ch 0 false 0 (nI cs.length) la 0) (nI cs.length) (nI (lsz cs)) (nI (dw (sUp d).2.1 0)) (nI (16 + 0)) := ifn hof (bnd hdr (ift (by decide) (ifn hz0 (bnd hfm rfl))))
    have hm2 := hM.trans hdm
    by_cases qd : dw d.2.1 160 = 0
    · have hcs : cs = [] := by
        cases cs with
        | nil => rfl
        | cons c cs' =>
          have e1 := hdz 16 (by omega) (by omega)
          have e2 := hR'.2.2.2.1.1.1
          have e3 := (hR'.2.2.2.2.1 c List.mem_cons_self).1.1
          have e4 : lsz (c :: cs') = 2 + 2 * c.1.length + lsz cs' := rfl
          rw [e1, show (0 : Int64) = lN 0 from rfl, pk_lEQ (by omega) (by omega)] at e2
          omega
      subst hcs
      have qd' : dw (sUp d).2.1 160 = 0 := qd
      rw [if_pos qd'] at hm2
      have hlast' : d.2.1 2 = lN lan := hlast
      obtain ⟨l1, l2, l3⟩ := load_both (N := N) (p := p) (own := own) (g := g) (ch := ch) (la := la) (th := 0) (y1 := nI ([] : List Com).length) (t := t) (D := sUp d) (w := 0) (gn := gn) (lan := lan) hN A.1 hR'.2.2.2.2.2.2.2.2 hlast' (fun g' hg' => ⟨hU, Nat.le_refl _, hR', fun j q1 q2 => hdz j (by have : 16 + 0 ≤ j := q1; omega) q2, hlast', hlan, hg'⟩)
      have hdc' : f_Log_dirtyWords N (nI (lsz []), nI ([] : List Com).length, nI lan) (sUp d) = some 0 := by
        have := hdc
        rw [hm, qd] at this
        exact this
      exact ⟨_, _, _, _, _, bnd rfl (ifn hof (bnd rfl (bnd (dread_c (w := 0) (by omega)) (ifn hz0 (bnd hfc (bnd hdc' (bnd (x := (true, (nI (lsz []), nI ([] : List Com).length, nI lan), sUp d)) (ift rfl rfl) (bnd rfl (ift rfl (bnd l1 rfl)))))))))), hm2.trans l2, rfl, kOn l3⟩
    · have qd' : ¬ dw (sUp d).2.1 160 = 0 := qd
      rw [if_neg qd'] at hm2
      have hcy := carry_c (N := N) (d := sUp d) (c2 := nI cs.length) (lan := lan) (cl := dw d.2.1 160) (by omega) hU.T (by omega) hlo (by omega) (by omega) hdl (by omega)
      have hem := empty_m (N := N) (d := sUp d) (v := g) (ic := chgd []) (ch := ch) (cn := 0) (o := false) (us := 0) (co := nI cs.length) (la := la) (th := 0) (cl := dw d.2.1 160) (by omega) (by omega) hU.T (by omega) hlo (by omega) hdl
      rw [hm, hlast, icz_nil psok_nil] at hem
      rcases carry_Lg (d := sUp d) (w := 0) (lan := lan) (cl := dw d.2.1 160) ht hU (by omega) hR' hlan (by omega) hdl hdz with ⟨⟨a1, a2, a3, a4⟩, a5⟩ | ⟨a1, a2⟩
      · rw [if_pos a1, a1] at hcy hem
        generalize sCarry (sUp d) cs (lN lan) (dw d.2.1 160) = r at *
        obtain ⟨l1, l2, l3⟩ := load_both (N := N) (p := p) (own := own) (g := g) (ch := ch) (la := la) (th := 0) (y1 := nI cs.length) (t := t + 1) (D := r.2) (w := 0) (gn := gn + 1) (lan := lan) hN A.1 a3 a2 a4
        refine ⟨_, _, _, _, _, bnd rfl (ifn hof (bnd rfl (bnd (dread_c (w := 0) (by omega)) (ifn hz0 (bnd hfc (bnd hdc (bnd hcy (bnd rfl (ift l3.on (bnd l1 rfl)))))))))), hm2.trans (bnd hem (ift rfl l2)), rfl, iOn l3⟩
      · rw [if_neg (by rw [a1]; decide), a1] at hcy hem
        exact ⟨_, _, _, _, _, bnd rfl (ifn hof (bnd rfl (bnd (dread_c (w := 0) (by omega)) (ifn hz0 (bnd hfc (bnd hdc (bnd hcy (bnd rfl (ifn (by show ¬ (sCarry (sUp d) cs (lN lan) (dw d.2.1 160)).2.2.2.2.2.2.1 = true; rw [a2.2.1]; decide) rfl))))))))), hm2.trans (bnd hem (ifn hfe rfl)), rfl, iOff ⟨A.1, a2⟩⟩
end
