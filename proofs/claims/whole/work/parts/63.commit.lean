/-! PURE SIDE 24: checkpoint and commit -/
theorem lastN_app {cs : List Com} {c : Com} : ∀ {y : Int64}, lastN (cs ++ [c]) y = lN c.2 := by
  induction cs with
  | nil => intro y; rfl
  | cons a cs ih => intro y; exact ih
theorem lastN_le {t : Nat} : ∀ {cs : List Com} {y : Int64}, (∃ n, n ≤ t ∧ y = lN n) → (∀ c ∈ cs, c.2 ≤ t) → ∃ n, n ≤ t ∧ lastN cs y = lN n := by
  intro cs
  induction cs with
  | nil => intro y h _; exact h
  | cons a cs ih => intro y h h2; exact ih ⟨a.2, h2 a List.mem_cons_self, rfl⟩ (fun c hc => h2 c (List.mem_cons_of_mem _ hc))
theorem lsz_pos {cs : List Com} (h : cs ≠ []) : 1 ≤ lsz cs := by
  cases cs with
  | nil => exact absurd rfl h
  | cons c cs => show 1 ≤ 2 + 2 * c.1.length + lsz cs; omega
section
variable {N L : Nat} {xs : Nat → Int32} {t : Nat} {vL : LT} {d : DT} {g own ch : Nat → Int64} {ps : List Nat} {p : Nat → Int32} {o : Bool} {w gn lan : Nat} {cs : List Com} {th : Int32} {us co : Int32} {la : Int64} {vO : Nat → Int64} {i : Nat} {y4 : Int32}
theorem carry_Lg {cl : Nat} (ht : t < 2 ^ 30) (h : OnD d w (Rec t)) (hw : w ≤ 160) (hR : RecF t d.2.1 gn cs) (hn : lan ≤ t) (h1 : 1 ≤ cl) (hc : cl ≤ 160) (hz : ∀ j, 16 + cl ≤ j → j < 176 → d.2.1 j = 0) : ((sCarry d cs (lN lan) cl).1 = true ∧ (sCarry d cs (lN lan) cl).2.2.1 2 = lN lan ∧ (∃ bs, Seg (sCarry d cs (lN lan) cl).2.2.1 176 bs 1024) ∧ ∀ g : Nat → Int64, (∀ j, (j = 1 ∨ 176 ≤ j) → j < 1024 → g j = (sCarry d cs (lN lan) cl).2.2.1 j) → LgOn (t + 1) (sCarry d cs (lN lan) cl).2 0 (gn + 1) lan [] g) ∧ (∀ j, (j = 1 ∨ 176 ≤ j) → (sCarry d cs (lN lan) cl).2.2.1 j = app d.2.1 (flat cs) j) ∨ ((sCarry d cs (lN lan) cl).1 = false ∧ OffD (sCarry d cs (lN lan) cl).2 (Rec (t + 1))) := by
  rcases carry_spec ht h hw hR hn h1 hc with ⟨a1, a2, a3, a4, a5, a6, a7⟩ | ⟨a1, a2⟩
  · refine Or.inl ⟨?_, a7⟩
    generalize hr : sCarry d cs (lN lan) cl = r at *
    obtain ⟨bs, hbs⟩ := hR.2.2.2.2.2.2.2.2
    have hS : Seg r.2.2.1 176 bs 1024 := Seg_congr hbs (fun j q1 q2 => a7 j (by omega))
    have hz2 : ∀ j, 16 ≤ j → j < 176 → r.2.2.1 j = 0 := fun j q1 q2 => by
      by_cases q : j < 16 + cl
      · exact a5 j q1 q
      · rw [a6 j (by omega) q2]
        exact hz j (by omega) q2
    have hg : gn ≤ t + 1 := hR.2.1
    refine ⟨a1, a4, ⟨bs, hS⟩, fun g hgj => ⟨a2, Nat.le_refl _, ⟨by omega, by omega, a3, trivial, fun c hc => (by cases hc), by show 16 + 0 ≤ 176; omega, Or.inr (NF_zero a3 (by omega) (hz2 _ (by show 16 ≤ 16 + 0; omega) (by show 16 + 0 < 176; omega))), ⟨lan, by omega, a4⟩, bs, hS⟩, fun j q1 q2 => hz2 j (by have : 16 + 0 ≤ j := q1; omega) q2, a4, by omega, hgj⟩⟩
  · exact Or.inr ⟨a1, a2⟩
theorem checkpoint_off (A : Off t d g own) : ∃ u, fc_checkpoint N L xs vL d (mkC g own [] p false) (sX d g ch us co la th) vO y4 = some u ∧ Inv (t + 1) u.1 u.2.1 u.2.2.1 u.2.2.2.1 := by
  have hof : ¬ d.2.2.2.2.2.1 = true := by rw [A.off]; decide
  have h1 : f_Law_checkpoint N vL d (mkC g own [] p false) vO = some ((1 : Int32), vL, d, vO) := gHe (gEe (nP_off A.off)) (ift rfl rfl)
  have h2 : f_Mod_checkpoint N (sX d g ch us co la th) = some ((0 : Int32), sX d g ch us co la 1) := ifn hof rfl
  exact ⟨_, bnd h1 (bnd h2 (bnd rfl (eT rfl n1))), kOff A⟩
/-- the log carried out while the power is on: both sides -/
theorem carry_both (hN : 2000 < N) (ht : t < 2 ^ 30) (A : On t d g own ch ps p o w gn lan cs) (hne : cs ≠ []) : (∃ D, f_Log_carryOut N (sL cs lan) d (nI (lsz cs)) = some (true, sL [] lan, D) ∧ f_Mod_empty N (sM d g ch ps o cs lan 0) (nI (lsz cs)) (nI (lsz cs)) = some (true, sM D g ch ps o [] lan 0) ∧ On (t + 1) D g own ch ps p o 0 (gn + 1) lan []) ∨ ∃ D, f_Log_carryOut N (sL cs lan) d (nI (lsz cs)) = some (false, sL cs lan, D) ∧ f_Mod_empty N (sM d g ch ps o cs lan 0) (nI (lsz cs)) (nI (lsz cs)) = some (false, sX D g ch (nI (lsz cs)) (nI cs.length) (lN lan) 0) ∧ Off (t + 1) D g own := by
  have hw := A.w160
  obtain ⟨c1, c2, c3, c4, c5, c6, c7⟩ := A.2.2
  have hlo := RecF_ok c3 ht
  have hls := c3.2.2.2.2.2.1
  have hgn := c3.2.1
  have h1 := carry_c (N := N) (c2 := nI cs.length) (lan := lan) (cl := lsz cs) (by omega) c1.T hw hlo (by omega) (lsz_pos hne) (by omega) (by omega)
  have h2 := empty_m (N := N) (v := g) (ic := chgd ps) (ch := ch) (cn := nI ps.length) (o := o) (us := nI (lsz cs)) (co := nI cs.length) (la := lN lan) (th := 0) (cl := lsz cs) (by omega) (by omega) c1.T hw hlo (by omega) (by omega)
  rw [c5, icz_nil A.1.2.1] at h2
  rcases carry_Lg ht c1 hw c3 c6 (lsz_pos hne) (by omega) c4 with ⟨⟨a1, a2, a3, a4⟩, a5⟩ | ⟨a1, a2⟩
  · rw [if_pos a1, a1] at h1 h2
    exact Or.inl ⟨_, h1, h2, A.1, A.2.1, a4 g (fun j q1 q2 => by rw [a5 j q1]; exact c7 j q1 q2)⟩
  · rw [if_neg (by rw [a1]; decide), a1] at h1 h2
    exact Or.inr ⟨_, h1, h2, A.hi, a2⟩
theorem checkpoint_on (hN : 2000 < N) (ht : t < 2 ^ 30) (A : On t d g own ch ps p o w gn lan cs) : ∃ u, fc_checkpoint N L xs (sL cs lan) d (mkC g own ps p o) (sM d g ch ps o cs lan th) vO y4 = some u ∧ Inv (t + 1) u.1 u.2.1 u.2.2.1 u.2.2.2.1 := by
  have hfe : ¬ (false = true) := Bool.false_ne_true
  cases o with
  | true =>
    have h1 : f_Law_checkpoint N (sL cs lan) d (mkC g own ps p true) vO = some ((1 : Int32), sL cs lan, d, vO) := gHe (gEo (nP_on A.on) (bnd rfl (ift rfl rfl))) (ift rfl rfl)
    have h2 : f_Mod_checkpoint N (sM d g ch ps true cs lan th) = some ((0 : Int32), sM d g ch ps true cs lan 1) := ift A.on (ift rfl rfl)
    exact ⟨_, bnd h1 (bnd h2 (bnd rfl (eT rfl n1))), kOn A⟩
  | false =>
    have e := A.nil
    subst e
    by_cases q : cs = []
    · subst q
      have h1 : f_Law_checkpoint N (sL [] lan) d (mkC g own [] p false) vO = some ((0 : Int32), sL [] lan, d, vp_updL vO (0 : Int32).toNatClampNeg (nI ([] : List Com).length).toInt64) := gHo (gEo (nP_on A.on) (bnd rfl (ifn hfe (bnd rfl (bnd rfl (bnd (x := (true, sL [] lan, d)) (ift rfl rfl) (ift rfl rfl))))))) (ift g01 rfl)
      have h2 : f_Mod_checkpoint N (sM d g ch [] false [] lan th) = some (nI ([] : List Com).length, sM d g ch [] false [] lan 0) := ift A.on (ifn hfe (ift rfl rfl))
      exact ⟨_, bnd h1 (bnd h2 (bnd rfl (eO rfl rfl (vO0 vO _)))), kOn A⟩
    · have hls := A.2.2.2.2.1.2.2.2.2.2.1
      have hlen := flat_len (cs := cs)
      have hcl : 1 ≤ cs.length := by cases cs with | nil => exact absurd rfl q | cons c cs => simp
      rcases carry_both hN ht A q with ⟨D, r1, r2, r3⟩ | ⟨D, r1, r2, r3⟩
      · have h1 : f_Law_checkpoint N (sL cs lan) d (mkC g own [] p false) vO = some ((0 : Int32), sL [] lan, D, vp_updL vO (0 : Int32).toNatClampNeg (nI cs.length).toInt64) := gHo (gEo (nP_on A.on) (bnd rfl (ifn hfe (bnd rfl (bnd rfl (bnd r1 (ift rfl rfl))))))) (ift g01 rfl)
        have h2 : f_Mod_checkpoint N (sM d g ch [] false cs lan th) = some (nI cs.length, sM D g ch [] false [] lan 0) := ift A.on (ifn hfe (ifn (nI_ne0 (by omega) (by omega)) (bnd r2 (ift rfl rfl))))
        exact ⟨_, bnd h1 (bnd h2 (bnd rfl (eO rfl rfl (vO0 vO _)))), iOn r3⟩
      · have h1 : f_Law_checkpoint N (sL cs lan) d (mkC g own [] p false) vO = some ((0 : Int32), sL cs lan, D, vp_updL vO (0 : Int32).toNatClampNeg (-2 : Int32).toInt64) := gHo (gEo (nP_on A.on) (bnd rfl (ifn hfe (bnd rfl (bnd rfl (bnd r1 (ifn hfe rfl))))))) (ift g01 rfl)
        have h2 : f_Mod_checkpoint N (sM d g ch [] false cs lan th) = some ((-2 : Int32), sX D g ch (nI (lsz cs)) (nI cs.length) (lN lan) 0) := ift A.on (ifn hfe (ifn (nI_ne0 (by omega) (by omega)) (bnd r2 (ifn hfe rfl))))
        exact ⟨_, bnd h1 (bnd h2 (bnd rfl (eO rfl rfl (vO0 vO _)))), iOff r3⟩
/-- a commit written, both sides -/
theorem app_step {sy : Bool} (hN : 2000 < N) (ht : t < 2 ^ 30) (A : On t d g own ch ps p true w gn lan cs) (h1 : 1 ≤ ps.length) (hr : lsz cs + (2 + 2 * ps.length) ≤ 160) : (∃ D w' cs', f_Log_append N (sL cs lan) d (mkC g own ps p true) sy = some (true, sL cs' (lan + 1), D) ∧ cmw N (sM d g ch ps true cs lan 0) sy (nI ps.length) = some (nI (lan + 1), sM D own ch [] false cs' (lan + 1) 0) ∧ On (t + 1) D own own ch [] p false w' gn (lan + 1) cs') ∨ ∃ D, f_Log_append N (sL cs lan) d (mkC g own ps p true) sy = some (false, sL cs lan, D) ∧ cmw N (sM d g ch ps true cs lan 0) sy (nI ps.length) = some ((-2 : Int32), sX D g ch (nI (lsz cs)) (nI cs.length) (lN lan) 0) ∧ Off (t + 1) D g own := by
  have hw := A.w160
  obtain ⟨bs, hS⟩ := A.2.1
  obtain ⟨c1, c2, c3, c4, c5, c6, c7⟩ := A.2.2
  have q1 := append_c (N := N) (g := g) (own := own) (ps := ps) (p := p) (o := true) (u := lsz cs) (k := cs.length) (lan := lan) (sy := sy) (by omega) c1.T hw A.1.2.1 A.1.2.2.1 hr (by omega)
  have q2 := cmw_yes (N := N) (v := g) (own := own) (ps := ps) (ch := ch) (o := true) (th := 0) (u := lsz cs) (k := cs.length) (lan := lan) (sy := sy) (by omega) c1.T hw A.1.2.1 A.1.1.1 A.1.1.2.1 hr (by omega)
  rcases append_spec ht c1 hw c3 c4 c6 A.1.2.1 A.1.2.2.2 h1 hr c7 A.1.1.1 hS with ⟨a1, a2, a3, a4, a5⟩ | ⟨a1, a2⟩
  · have hsz : lsz (cs ++ [(ents own ps, lan + 1)]) = lsz cs + (2 + 2 * ps.length) := by
      rw [lsz_app]
      show lsz cs + (2 + 2 * (ents own ps).length + 0) = _
      rw [ents_len, Nat.add_zero]
    have hln : (cs ++ [(ents own ps, lan + 1)]).length = cs.length + 1 := by rw [List.length_append]; rfl
    rw [if_pos a1, a1] at q1
    rw [if_pos a1, if_pos a1] at q2
    rw [← hsz, ← hln] at q1 q2
    have hTS : TSo own own ch [] p false := ⟨⟨fun _ _ => rfl, fun _ h => (by cases h), fun _ => rfl⟩, psok_nil, fun j x h => (by cases h), fun x h => (by cases h)⟩
    cases sy with
    | true =>
      rw [if_pos ⟨rfl, rfl⟩] at q1
      rw [if_pos ⟨a1, rfl⟩] at q2
      obtain ⟨b1, b2⟩ := sync_on a2 (by omega)
      refine Or.inl ⟨_, 0, cs ++ [(ents own ps, lan + 1)], q1, q2, hTS, ⟨bs, hS⟩, b1, Nat.zero_le _, ?_, ?_, ?_, by omega, ?_⟩
      · rw [b2]; exact a3
      · rw [b2]; exact a4
      · rw [b2]; exact lastN_app
      · rw [b2]; exact a5
    | false =>
      rw [if_neg (fun z => Bool.false_ne_true z.2)] at q1
      rw [if_neg (fun z => Bool.false_ne_true z.2)] at q2
      exact Or.inl ⟨_, w + (2 + 2 * ps.length), cs ++ [(ents own ps, lan + 1)], q1, q2, hTS, ⟨bs, hS⟩, a2, by omega, a3, a4, lastN_app, by omega, a5⟩
  · rw [if_neg (by rw [a1]; decide), a1, if_neg (fun z => Bool.false_ne_true z.1)] at q1
    rw [if_neg (by rw [a1]; decide), if_neg (by rw [a1]; decide)] at q2
    exact Or.inr ⟨_, q1, q2, A.hi, a2⟩
theorem room_yes {u k : Nat} {c2 c3 : Int32} (hk : k ≤ 96) (hu : u ≤ 160) (h : u + (2 + 2 * k) ≤ 160) : f_Log_hasRoomFor (nI u, c2, c3) (nI k) = some true := by
  unfold f_Log_hasRoomFor
  have e : nI u + (2 : Int32) + (2 : Int32) * nI k = nI (u + 2 + 2 * k) := by rw [show (2 : Int32) = nI 2 from rfl, pk_mul, nI_add, nI_add]
  show (if (160 : Int32) < nI u + (2 : Int32) + (2 : Int32) * nI k then _ else _) = _
  rw [e]
  exact ifn (nI_nlt (a := 160) (by omega) (by omega)) rfl
theorem room_no {u k : Nat} {c2 c3 : Int32} (hk : k ≤ 96) (hu : u ≤ 160) (h : ¬ u + (2 + 2 * k) ≤ 160) : f_Log_hasRoomFor (nI u, c2, c3) (nI k) = some false := by
  unfold f_Log_hasRoomFor
  have e : nI u + (2 : Int32) + (2 : Int32) * nI k = nI (u + 2 + 2 * k) := by rw [show (2 : Int32) = nI 2 from rfl, pk_mul, nI_add, nI_add]
  show (if (160 : Int32) < nI u + (2 : Int32) + (2 : Int32) * nI k then _ else _) = _
  rw [e]
  exact ift (nI_lt (a := 160) (by omega) (by omega)) rfl
theorem need_le {u k : Nat} (hk : k ≤ 96) (hu : u ≤ 160) : ((2 : Int32) + (2 : Int32) * nI k ≤ (160 : Int32) - nI u) ↔ u + (2 + 2 * k) ≤ 160 := by
  have e0 : (2 : Int32) + (2 : Int32) * nI k = nI (2 + 2 * k) := by rw [show (2 : Int32) = nI 2 from rfl, pk_mul, nI_add]
  have e2 : (160 : Int32) - nI u = nI (160 - u) := by rw [show (160 : Int32) = nI 160 from rfl, pk_sub (by omega)]
  rw [e0, e2, nI_leI (by omega) (by omega)]
  omega
theorem commit_off {sy : Bool} (A : Off t d g own) : f_Law_commit N vL d (mkC g own [] p false) vO sy = some ((1 : Int32), vL, d, mkC g own [] p false, vO) ∧ f_Mod_commit N (sX d g ch us co la th) sy = some ((0 : Int32), sX d g ch us co la 1) :=
  ⟨gHe (gEe (nT_off A.off)) (ift rfl rfl), bnd sh_shut (ift rfl rfl)⟩
/-- COMMIT, the power being on: both sides -/
theorem commit_both {sy : Bool} (hN : 2000 < N) (ht : t + 1 < 2 ^ 30) (A : On t d g own ch ps p true w gn lan cs) : ∃ x vL' D vC' M', f_Heap_commit N (sL cs lan) d (mkC g own ps p true) sy = some (.ok (x, vL', D, vC')) ∧ f_Mod_commit N (sM d g ch ps true cs lan th) sy = some (x, M') ∧ M'.2.2.2.2.2.2.2.2.2.2.2.2.2.2.2.2.2.2.2.2 = 0 ∧ Inv (t + 2) vL' D vC' M' := by
  have hfe : ¬ (false = true) := Bool.false_ne_true
  have hls := A.2.2.2.2.1.2.2.2.2.2.1
  have hl := A.1.2.1.2.2
  by_cases q0 : ps = []
  · subst q0
    have hog : own = g := funext fun j => A.1.1.1 j (fun h => (by cases h))
    have h3 := drop_m (N := N) d g (chgd []) ch (nI ([] : List Nat).length) true (nI (lsz cs)) (nI cs.length) (lN lan) 0 (by omega)
    rw [icz_nil psok_nil] at h3
    refine ⟨nI lan, _, _, _, sM d g ch [] false cs lan 0, gEo (nT_on A.on) (bnd rfl (ift rfl (bnd (accept_c A.1.2.1 A.1.2.2.1 A.1.1.1 (by omega)) (bnd rfl rfl)))), bnd (sh_on A.on) (ifn hfe (ift rfl (bnd h3 (by show some ((lN lan).toInt32, _) = _; rw [lN_i]; rfl)))), rfl, ?_⟩
    rw [hog]
    exact kOn (On_mono (On_drop A))
  · have h1 : 1 ≤ ps.length := by cases ps with | nil => exact absurd rfl q0 | cons a l => simp
    have hn0 : ¬ nI ps.length = 0 := nI_ne0 h1 (by omega)
    by_cases hr : lsz cs + (2 + 2 * ps.length) ≤ 160
    · have hroom := room_yes (c2 := nI cs.length) (c3 := nI lan) hl (by omega) hr
      have hm : f_Mod_commit N (sM d g ch ps true cs lan th) sy = cmw N (sM d g ch ps true cs lan 0) sy (nI ps.length) := bnd (sh_on A.on) (ifn hfe (ifn hn0 (ift ((need_le hl (by omega)).mpr hr) rfl)))
      rcases app_step (sy := sy) hN (by omega) A h1 hr with ⟨D, w', cs', r1, r2, r3⟩ | ⟨D, r1, r2, r3⟩
      · exact ⟨_, _, _, _, _, gEo (nT_on A.on) (bnd rfl (ifn hn0 (bnd rfl (bnd hroom (ift rfl (bnd rfl (bnd hroom (ift rfl (bnd r1 (ift rfl (bnd (accept_c A.1.2.1 A.1.2.2.1 A.1.1.1 (by omega)) (bnd rfl rfl)))))))))))), hm.trans r2, rfl, kOn r3⟩
      · exact ⟨_, _, _, _, _, gEo (nT_on A.on) (bnd rfl (ifn hn0 (bnd rfl (bnd hroom (ift rfl (bnd rfl (bnd hroom (ift rfl (bnd r1 (ifn hfe (bnd (drop_c A.1.2.1 A.1.2.2.1 (by omega)) rfl))))))))))), hm.trans r2, rfl, kOff r3⟩
    · have hroom := room_no (c2 := nI cs.length) (c3 := nI lan) hl (by omega) hr
      have hnr : ¬ ((2 : Int32) + (2 : Int32) * nI ps.length ≤ (160 : Int32) - nI (lsz cs)) := fun z => hr ((need_le hl (by omega)).mp z)
      by_cases qc : cs = []
      · subst qc
        exact ⟨-1, sL [] lan, d, mkC g own ps p true, sM d g ch ps true [] lan 0, gEo (nT_on A.on) (bnd rfl (ifn hn0 (bnd rfl (bnd hroom (ifn hfe (bnd rfl (bnd (x := (true, sL [] lan, d)) (ift rfl rfl) (ift rfl (bnd rfl (bnd hroom (ifn hfe rfl))))))))))), bnd (sh_on A.on) (ifn hfe (ifn hn0 (ifn hnr (ift (by show nI 0 ≤ 0; decide) (ifn hnr rfl))))), rfl, kOn (On_mono A)⟩
      · have hp := lsz_pos qc
        have hm : ∀ X, f_Mod_empty N (sM d g ch ps true cs lan 0) (nI (lsz cs)) (nI (lsz cs)) = some X → f_Mod_commit N (sM d g ch ps true cs lan th) sy = if X.1 = true then cmw N X.2 sy (nI ps.length) else some ((-2 : Int32), X.2) := fun X hX => bnd (sh_on A.on) (ifn hfe (ifn hn0 (ifn hnr (ifn (nI_nle (by omega) (by omega)) (bnd hX rfl)))))
        rcases carry_both hN (by omega) A qc with ⟨D, r1, r2, r3⟩ | ⟨D, r1, r2, r3⟩
        · have hm2 := (hm _ r2).trans (if_pos rfl)
          by_cases hr2 : lsz [] + (2 + 2 * ps.length) ≤ 160
          · have hroom2 := room_yes (c2 := nI ([] : List Com).length) (c3 := nI lan) hl (by show 0 ≤ 160; omega) hr2
            rcases app_step (sy := sy) hN (by omega) r3 h1 hr2 with ⟨D2, w', cs', s1, s2, s3⟩ | ⟨D2, s1, s2, s3⟩
            · exact ⟨_, _, _, _, _, gEo (nT_on A.on) (bnd rfl (ifn hn0 (bnd rfl (bnd hroom (ifn hfe (bnd rfl (bnd r1 (ift rfl (bnd rfl (bnd hroom2 (ift rfl (bnd s1 (ift rfl (bnd (accept_c A.1.2.1 A.1.2.2.1 A.1.1.1 (by omega)) (bnd rfl rfl))))))))))))))), hm2.trans s2, rfl, iOn s3⟩
            · exact ⟨_, _, _, _, _, gEo (nT_on A.on) (bnd rfl (ifn hn0 (bnd rfl (bnd hroom (ifn hfe (bnd rfl (bnd r1 (ift rfl (bnd rfl (bnd hroom2 (ift rfl (bnd s1 (ifn hfe (bnd (drop_c A.1.2.1 A.1.2.2.1 (by omega)) rfl)))))))))))))), hm2.trans s2, rfl, iOff s3⟩
          · have hroom2 := room_no (c2 := nI ([] : List Com).length) (c3 := nI lan) hl (by show 0 ≤ 160; omega) hr2
            have hnr2 : ¬ ((2 : Int32) + (2 : Int32) * nI ps.length ≤ (160 : Int32) - nI (lsz [])) := fun z => hr2 ((need_le hl (by show 0 ≤ 160; omega)).mp z)
            exact ⟨_, _, _, _, _, gEo (nT_on A.on) (bnd rfl (ifn hn0 (bnd rfl (bnd hroom (ifn hfe (bnd rfl (bnd r1 (ift rfl (bnd rfl (bnd hroom2 (ifn hfe rfl))))))))))), hm2.trans (ifn hnr2 rfl), rfl, kOn r3⟩
        · exact ⟨_, _, _, _, _, gEo (nT_on A.on) (bnd rfl (ifn hn0 (bnd rfl (bnd hroom (ifn hfe (bnd rfl (bnd r1 (ifn hfe (bnd (drop_c A.1.2.1 A.1.2.2.1 (by omega)) rfl))))))))), (hm _ r2).trans (if_neg hfe), rfl, kOff r3⟩
end
