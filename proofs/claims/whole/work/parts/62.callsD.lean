/-! PURE SIDE 23: the calls, fourth part -/
section
variable {N L : Nat} {xs : Nat → Int32} {t : Nat} {vL : LT} {d : DT} {g own ch : Nat → Int64} {ps : List Nat} {p : Nat → Int32} {o : Bool} {w gn lan : Nat} {cs : List Com} {th : Int32} {us co : Int32} {la : Int64} {vO : Nat → Int64} {i : Nat}
theorem take_off (hL : L < 2 ^ 31) (hi : i + 5 ≤ L) (A : Off t d g own) : ∃ u, fc_take N L xs vL d (mkC g own [] p false) (sX d g ch us co la th) vO (nI i) = some u ∧ Inv (t + 1) u.1 u.2.1 u.2.2.1 u.2.2.2.1 := by
  have hg : gI (nI i + (1 : Int32)) L = true := gk (k := 1) rfl (by omega) hL
  unfold fc_take
  generalize xs (nI i + (1 : Int32)).toNatClampNeg = a
  have h1 : f_Law_take N d (mkC g own [] p false) vO a = some ((1 : Int32), mkC g own [] p false, vO) := gHe (gEe (nT_off A.off)) (ift rfl rfl)
  have h2 : f_Mod_take N (sX d g ch us co la th) a = some ((0 : Int32), sX d g ch us co la 1) := bnd sh_shut (ift rfl rfl)
  exact ⟨_, ift hg (bnd h1 (ift hg (bnd h2 (bnd rfl (eT rfl n1))))), kOff A⟩
theorem take_on (hN : 2000 < N) (hL : L < 2 ^ 31) (hi : i + 5 ≤ L) (A : On t d g own ch ps p o w gn lan cs) : ∃ u, fc_take N L xs (sL cs lan) d (mkC g own ps p o) (sM d g ch ps o cs lan th) vO (nI i) = some u ∧ Inv (t + 1) u.1 u.2.1 u.2.2.1 u.2.2.2.1 := by
  have hg : gI (nI i + (1 : Int32)) L = true := gk (k := 1) rfl (by omega) hL
  have hne : ¬ (false = true) := Bool.false_ne_true
  unfold fc_take
  generalize xs (nI i + (1 : Int32)).toNatClampNeg = a
  cases o with
  | false =>
    have h1 : f_Law_take N d (mkC g own ps p false) vO a = some ((1 : Int32), mkC g own ps p false, vO) := gHe (gEe (nT_shut A.on)) (ift rfl rfl)
    have h2 : f_Mod_take N (sM d g ch ps false cs lan th) a = some ((0 : Int32), sM d g ch ps false cs lan 1) := bnd sh_shut (ift rfl rfl)
    exact ⟨_, ift hg (bnd h1 (ift hg (bnd h2 (bnd rfl (eT rfl n1))))), kOn A⟩
  | true =>
    by_cases q1 : a < (1 : Int32)
    · have h1 : f_Law_take N d (mkC g own ps p true) vO a = some ((2 : Int32), mkC g own ps p true, vO) := gHe (gEo (nT_on A.on) (ift q1 rfl)) (ifn (by decide) (ift rfl rfl))
      have h2 : f_Mod_take N (sM d g ch ps true cs lan th) a = some ((0 : Int32), sM d g ch ps true cs lan 2) := bnd (sh_on A.on) (ifn hne (ift q1 rfl))
      exact ⟨_, ift hg (bnd h1 (ift hg (bnd h2 (bnd rfl (eT rfl n2))))), kOn A⟩
    · by_cases q2 : a ≤ (847 : Int32)
      · obtain ⟨m, hm, rfl⟩ := nI_of2 (x := a) (M := 847) (n := 847) (by decide) (fun z => q1 (Int32.lt_trans z (by decide))) q2
        have h1m : 1 ≤ m := by
          rcases Nat.lt_or_ge m 1 with z | z
          · exact absurd (nI_lt (b := 1) z (by omega)) q1
          · exact z
        obtain ⟨bs, hS⟩ := A.2.1
        rcases take_both (N := N) (d := d) (us := nI (lsz cs)) (co := nI cs.length) (la := lN lan) (th := 0) A.ts h1m hm hN hS with ⟨r1, r2⟩ | ⟨k, own', ps', p', ch', bs', r1, r2, r3, r4⟩
        · have h1 : f_Law_take N d (mkC g own ps p true) vO (nI m) = some ((0 : Int32), mkC g own ps p true, vp_updL vO (0 : Int32).toNatClampNeg (-1 : Int32).toInt64) := gHo (gEo (nT_on A.on) (ifn q1 (ift q2 (bnd r1 rfl)))) (ift g01 rfl)
          have h2 : f_Mod_take N (sM d g ch ps true cs lan th) (nI m) = some ((-1 : Int32), sM d g ch ps true cs lan 0) := bnd (sh_on A.on) (ifn hne (ifn q1 (ift q2 r2)))
          exact ⟨_, ift hg (bnd h1 (ift hg (bnd h2 (bnd rfl (eO rfl rfl (vO0 vO _)))))), kOn A⟩
        · have h1 : f_Law_take N d (mkC g own ps p true) vO (nI m) = some ((0 : Int32), mkC g own' ps' p' true, vp_updL vO (0 : Int32).toNatClampNeg (nI (k + 1)).toInt64) := gHo (gEo (nT_on A.on) (ifn q1 (ift q2 (bnd r1 rfl)))) (ift g01 rfl)
          have h2 : f_Mod_take N (sM d g ch ps true cs lan th) (nI m) = some (nI (k + 1), sM d g ch' ps' true cs lan 0) := bnd (sh_on A.on) (ifn hne (ifn q1 (ift q2 r2)))
          exact ⟨_, ift hg (bnd h1 (ift hg (bnd h2 (bnd rfl (eO rfl rfl (vO0 vO _)))))), kOn (On_TS A r3 ⟨bs', r4⟩)⟩
      · have h1 : f_Law_take N d (mkC g own ps p true) vO a = some ((2 : Int32), mkC g own ps p true, vO) := gHe (gEo (nT_on A.on) (ifn q1 (ifn q2 rfl))) (ifn (by decide) (ift rfl rfl))
        have h2 : f_Mod_take N (sM d g ch ps true cs lan th) a = some ((0 : Int32), sM d g ch ps true cs lan 2) := bnd (sh_on A.on) (ifn hne (ifn q1 (ifn q2 rfl)))
        exact ⟨_, ift hg (bnd h1 (ift hg (bnd h2 (bnd rfl (eT rfl n2))))), kOn A⟩
theorem give_off (hL : L < 2 ^ 31) (hi : i + 5 ≤ L) (A : Off t d g own) : ∃ u, fc_give N L xs vL d (mkC g own [] p false) (sX d g ch us co la th) vO (nI i) = some u ∧ Inv (t + 1) u.1 u.2.1 u.2.2.1 u.2.2.2.1 := by
  have hg : gI (nI i + (1 : Int32)) L = true := gk (k := 1) rfl (by omega) hL
  unfold fc_give
  generalize xs (nI i + (1 : Int32)).toNatClampNeg = a
  have h1 : f_Law_give N d (mkC g own [] p false) vO a = some ((1 : Int32), mkC g own [] p false, vO) := gHe (gEe (nT_off A.off)) (ift rfl rfl)
  have h2 : f_Mod_give N (sX d g ch us co la th) a = some ((0 : Int32), sX d g ch us co la 1) := bnd sh_shut (ift rfl (bnd sh_shut (ift rfl rfl)))
  exact ⟨_, ift hg (bnd h1 (ift hg (bnd h2 (bnd rfl (eT rfl n1))))), kOff A⟩
theorem give_on (hN : 2000 < N) (hL : L < 2 ^ 31) (hi : i + 5 ≤ L) (A : On t d g own ch ps p o w gn lan cs) : ∃ u, fc_give N L xs (sL cs lan) d (mkC g own ps p o) (sM d g ch ps o cs lan th) vO (nI i) = some u ∧ Inv (t + 1) u.1 u.2.1 u.2.2.1 u.2.2.2.1 := by
  have hg : gI (nI i + (1 : Int32)) L = true := gk (k := 1) rfl (by omega) hL
  have hne : ¬ (false = true) := Bool.false_ne_true
  unfold fc_give
  generalize xs (nI i + (1 : Int32)).toNatClampNeg = a
  cases o with
  | false =>
    have h1 : f_Law_give N d (mkC g own ps p false) vO a = some ((1 : Int32), mkC g own ps p false, vO) := gHe (gEe (nT_shut A.on)) (ift rfl rfl)
    have h2 : f_Mod_give N (sM d g ch ps false cs lan th) a = some ((0 : Int32), sM d g ch ps false cs lan 1) := bnd sh_shut (ift rfl (bnd sh_shut (ift rfl rfl)))
    exact ⟨_, ift hg (bnd h1 (ift hg (bnd h2 (bnd rfl (eT rfl n1))))), kOn A⟩
  | true =>
    rcases used_cm hN A a with ⟨k, n, B1, B2, h1, h2, h3, h4, h5, h6, h7, h8, h9⟩ | ⟨h8, h9⟩
    · have hu : f_Heap_needUsedBlock N (mkC g own ps p true) a = some (.ok ()) := bnd h8 (ift rfl rfl)
      have ea : a - (1 : Int32) = nI k := by rw [h5]; exact nI_pred k
      obtain ⟨x, hx, hr⟩ := give_both (N := N) (d := d) (us := nI (lsz cs)) (co := nI cs.length) (la := lN lan) (th := 0) (a := a) A.ts hN h6 h2 h4 h7
      have q2 : f_Mod_give N (sM d g ch ps true cs lan th) a = some x := bnd (sh_on A.on) (ifn hne (bnd (h9 th) (bnd (sh_on A.on) (ifn hne (ift (nI_pos' (by omega)) hx)))))
      rcases hr with ⟨rfl, r1⟩ | ⟨s, own', ps', p', ch', bs', rfl, r1, r3, r4⟩
      · have q1 : f_Law_give N d (mkC g own ps p true) vO a = some ((0 : Int32), mkC g own ps p true, vp_updL vO (0 : Int32).toNatClampNeg (-1 : Int32).toInt64) := gHo (gEo (nT_on A.on) (gEo hu (bnd (by rw [ea]; exact r1) rfl))) (ift g01 rfl)
        exact ⟨_, ift hg (bnd q1 (ift hg (bnd q2 (bnd rfl (eO rfl rfl (vO0 vO _)))))), kOn A⟩
      · have q1 : f_Law_give N d (mkC g own ps p true) vO a = some ((0 : Int32), mkC g own' ps' p' true, vp_updL vO (0 : Int32).toNatClampNeg (nI s).toInt64) := gHo (gEo (nT_on A.on) (gEo hu (bnd (by rw [ea]; exact r1) rfl))) (ift g01 rfl)
        exact ⟨_, ift hg (bnd q1 (ift hg (bnd q2 (bnd rfl (eO rfl rfl (vO0 vO _)))))), kOn (On_TS A r3 ⟨bs', r4⟩)⟩
    · have hu : f_Heap_needUsedBlock N (mkC g own ps p true) a = some (.error "java/lang/IllegalArgumentException") := bnd h8 (ifn hne rfl)
      have q1 : f_Law_give N d (mkC g own ps p true) vO a = some ((2 : Int32), mkC g own ps p true, vO) := gHe (gEo (nT_on A.on) (gEe hu)) (ifn (by decide) (ift rfl rfl))
      have q2 : f_Mod_give N (sM d g ch ps true cs lan th) a = some ((0 : Int32), sM d g ch ps true cs lan 2) := bnd (sh_on A.on) (ifn hne (bnd (h9 th) (bnd (sh_on A.on) (ifn hne (ifn (by decide) rfl)))))
      exact ⟨_, ift hg (bnd q1 (ift hg (bnd q2 (bnd rfl (eT rfl n2))))), kOn A⟩
theorem block_off (hL : L < 2 ^ 31) (hi : i + 5 ≤ L) (A : Off t d g own) : ∃ u, fc_block N L xs vL d (mkC g own [] p false) (sX d g ch us co la th) vO (nI i) = some u ∧ Inv (t + 1) u.1 u.2.1 u.2.2.1 u.2.2.2.1 := by
  have hg : gI (nI i + (1 : Int32)) L = true := gk (k := 1) rfl (by omega) hL
  have hg2 : gI (nI i + (2 : Int32)) L = true := gk (k := 2) rfl (by omega) hL
  unfold fc_block
  generalize xs (nI i + (1 : Int32)).toNatClampNeg = a
  generalize xs (nI i + (2 : Int32)).toNatClampNeg = b
  have hof : ¬ d.2.2.2.2.2.1 = true := by rw [A.off]; decide
  have h1 : f_Law_block N d (mkC g own [] p false) vO a b = some ((1 : Int32), vO) := gHe (gEe (nP_off A.off)) (ift rfl rfl)
  have h2 : f_Mod_block N (sX d g ch us co la th) a b = some ((0 : Int32), sX d g ch us co la 1) := ifn hof rfl
  exact ⟨_, ift hg (ift hg2 (bnd h1 (ift hg (ift hg2 (bnd h2 (bnd rfl (eT rfl n1))))))), kOff A⟩
theorem block_on (hN : 2000 < N) (hL : L < 2 ^ 31) (hi : i + 5 ≤ L) (A : On t d g own ch ps p o w gn lan cs) : ∃ u, fc_block N L xs (sL cs lan) d (mkC g own ps p o) (sM d g ch ps o cs lan th) vO (nI i) = some u ∧ Inv (t + 1) u.1 u.2.1 u.2.2.1 u.2.2.2.1 := by
  have hg : gI (nI i + (1 : Int32)) L = true := gk (k := 1) rfl (by omega) hL
  have hg2 : gI (nI i + (2 : Int32)) L = true := gk (k := 2) rfl (by omega) hL
  unfold fc_block
  generalize xs (nI i + (1 : Int32)).toNatClampNeg = a
  generalize xs (nI i + (2 : Int32)).toNatClampNeg = b
  have bad : (f_Heap_block N d (mkC g own ps p o) a b = some (.error "java/lang/IndexOutOfBoundsException") ∧ f_Mod_block N (sM d g ch ps o cs lan th) a b = some ((0 : Int32), sM d g ch ps o cs lan 2)) ∨ ∃ x, f_Heap_block N d (mkC g own ps p o) a b = some (.ok x) ∧ f_Mod_block N (sM d g ch ps o cs lan th) a b = some (x, sM d g ch ps o cs lan 0) := by
    by_cases q1 : b < 0
    · exact Or.inl ⟨gEo (nP_on A.on) (ift q1 rfl), ift A.on (ift q1 rfl)⟩
    · by_cases q2 : b ≤ (2 : Int32)
      · refine Or.inr ?_
        obtain ⟨bs, hS⟩ := A.2.1
        have hc : ∀ x, f_Blk_headOf N (mkC g own ps p o) a = some x → f_Heap_block N d (mkC g own ps p o) a b = if x = (-1 : Int32) then some (Except.ok (-1 : Int32)) else if b = (0 : Int32) then some (Except.ok (x + (1 : Int32))) else if b = (1 : Int32) then (f_Blk_sizeAt (mkC g own ps p o) x).bind fun x10 => some (Except.ok x10) else (f_Blk_isUsed (mkC g own ps p o) x).bind fun x12 => if x12 = true then some (Except.ok (1 : Int32)) else some (Except.ok (0 : Int32)) := fun x hx => gEo (nP_on A.on) (ifn q1 (ift q2 (bnd hx rfl)))
        by_cases qa : a < 0
        · have hh := headOf_neg (N := N) (g := g) (own := own) (ps := ps) (p := p) (o := o) qa bs 176 N 0 hS (Nat.le_refl _) (by omega) (by omega)
          refine ⟨-1, (hc _ hh).trans (ift rfl rfl), ift A.on (ifn q1 (ift q2 ?_))⟩
          obtain ⟨M, rfl⟩ : ∃ M, N = M + 1 := ⟨N - 1, by omega⟩
          unfold f_Mod_block_45
          exact ifn (by decide) (ift (Int32.le_of_lt qa) (ift qa rfl))
        · obtain ⟨j, hj, rfl⟩ := nI_of qa
          rcases block_both (N := N) (d := d) (p := p) (us := nI (lsz cs)) (co := nI cs.length) (la := lN lan) (th := 0) (cn := nI ps.length) A.1.1 b hj bs 176 N 0 hS (Nat.le_refl _) (by omega) (Nat.zero_le _) with ⟨h', n, u, r1, r2, r3, r4, r5, r6⟩ | ⟨r5, r6⟩
          · refine ⟨bans b h' n u, (hc _ r5).trans (ifn (nI_m1 (by omega)) ?_), ift A.on (ifn q1 (ift q2 r6))⟩
            unfold bans
            by_cases z0 : b = 0
            · rw [if_pos z0, if_pos z0]
            · rw [if_neg z0, if_neg z0]
              by_cases z1 : b = 1
              · rw [if_pos z1, if_pos z1]
                exact bnd (sizeAt_c r1 r2 r3 r4) rfl
              · rw [if_neg z1, if_neg z1]
                refine bnd (isUsed_c (by omega) (by omega) r4) ?_
                cases u <;> rfl
          · exact ⟨-1, (hc _ r5).trans (ift rfl rfl), ift A.on (ifn q1 (ift q2 r6))⟩
      · exact Or.inl ⟨gEo (nP_on A.on) (ifn q1 (ifn q2 rfl)), ift A.on (ifn q1 (ifn q2 rfl))⟩
  rcases bad with ⟨q1, q2⟩ | ⟨x, q1, q2⟩
  · have h1 : f_Law_block N d (mkC g own ps p o) vO a b = some ((2 : Int32), vO) := gHe q1 (ifn (by decide) (ift rfl rfl))
    exact ⟨_, ift hg (ift hg2 (bnd h1 (ift hg (ift hg2 (bnd q2 (bnd rfl (eT rfl n2))))))), kOn A⟩
  · have h1 : f_Law_block N d (mkC g own ps p o) vO a b = some ((0 : Int32), vp_updL vO (0 : Int32).toNatClampNeg x.toInt64) := gHo q1 (ift g01 rfl)
    exact ⟨_, ift hg (ift hg2 (bnd h1 (ift hg (ift hg2 (bnd q2 (bnd rfl (eO rfl rfl (vO0 vO _)))))))), kOn A⟩
theorem told_off (hL : L < 2 ^ 31) (hi : i + 5 ≤ L) (A : Off t d g own) : ∃ u, fc_told N L xs vL d (mkC g own [] p false) (sX d g ch us co la th) vO (nI i) = some u ∧ Inv (t + 1) u.1 u.2.1 u.2.2.1 u.2.2.2.1 := by
  have hg : gI (nI i + (1 : Int32)) L = true := gk (k := 1) rfl (by omega) hL
  unfold fc_told
  generalize xs (nI i + (1 : Int32)).toNatClampNeg = a
  have hof : ¬ d.2.2.2.2.2.1 = true := by rw [A.off]; decide
  have h1 : f_Law_told N vL d (mkC g own [] p false) vO a = some ((1 : Int32), vO) := gHe (gEe (nP_off A.off)) (ift rfl rfl)
  have h2 : f_Mod_told N (sX d g ch us co la th) a = some ((0 : Int32), sX d g ch us co la 1) := ifn hof rfl
  exact ⟨_, ift hg (bnd h1 (ift hg (bnd h2 (bnd rfl (eT rfl n1))))), kOff A⟩
theorem told_on (hN : 2000 < N) (hL : L < 2 ^ 31) (hi : i + 5 ≤ L) (A : On t d g own ch ps p o w gn lan cs) : ∃ u, fc_told N L xs (sL cs lan) d (mkC g own ps p o) (sM d g ch ps o cs lan th) vO (nI i) = some u ∧ Inv (t + 1) u.1 u.2.1 u.2.2.1 u.2.2.2.1 := by
  have hg : gI (nI i + (1 : Int32)) L = true := gk (k := 1) rfl (by omega) hL
  unfold fc_told
  generalize xs (nI i + (1 : Int32)).toNatClampNeg = a
  have bad : (f_Heap_told N (sL cs lan) d (mkC g own ps p o) a = some (.error "java/lang/IndexOutOfBoundsException") ∧ f_Mod_told N (sM d g ch ps o cs lan th) a = some ((0 : Int32), sM d g ch ps o cs lan 2)) ∨ ∃ x, f_Heap_told N (sL cs lan) d (mkC g own ps p o) a = some (.ok x) ∧ f_Mod_told N (sM d g ch ps o cs lan th) a = some (x, sM d g ch ps o cs lan 0) := by
    obtain ⟨bs, hS⟩ := A.2.1
    have out : (a < 0 ∨ nI 8 ≤ a) → f_Heap_told N (sL cs lan) d (mkC g own ps p o) a = some (.error "java/lang/IndexOutOfBoundsException") := fun hr => by
      have hne : ∀ j, j < 8 → ¬ a = nI j := fun j hj q => by
        subst q
        rcases hr with z | z
        · exact nI_pos (by omega) z
        · exact nI_ge hj (by omega) z
      exact gEo (nP_on A.on) (ifn (hne 0 (by omega)) (ifn (hne 1 (by omega)) (ifn (hne 2 (by omega)) (ifn (hne 3 (by omega)) (ifn (hne 4 (by omega)) (ifn (hne 5 (by omega)) (ifn (hne 6 (by omega)) (ifn (hne 7 (by omega)) rfl))))))))
    rcases pk_ix a (n := 8) (by omega) with hr | hr | ⟨j, hj, rfl⟩
    · exact Or.inl ⟨out (Or.inl hr), ift A.on (ift hr rfl)⟩
    · refine Or.inl ⟨out (Or.inr hr), ift A.on ?_⟩
      by_cases z : a < 0
      · exact ift z rfl
      · exact ifn z (ifn (fun z2 => absurd (Int32.le_trans hr z2) (by decide)) rfl)
    · have hm := told_m (N := N) (d := d) (us := nI (lsz cs)) (co := nI cs.length) (la := lN lan) (th := 0) (cn := nI ps.length) A.1.1 (nI j) bs 176 N 0 0 0 hS (Nat.le_refl _) (by omega) (by omega)
      rw [Nat.zero_add, Nat.zero_add] at hm
      have hm2 : f_Mod_told N (sM d g ch ps o cs lan th) (nI j) = tolt (sM d g ch ps o cs lan 0) (nI j) (nI (sFree bs)) (nI (sMax bs 0)) (nI bs.length) := ift A.on (ifn (nI_pos (by omega)) (ift (nI_le (b := 7) (by omega) (by omega)) hm))
      have f0 := free_c (N := N) (g := g) (own := own) (ps := ps) (p := p) (o := o) bs 176 N 0 hS (Nat.le_refl _) (by omega)
      have f1 := most_c (N := N) (g := g) (own := own) (ps := ps) (p := p) (o := o) bs 176 N 0 hS (Nat.le_refl _) (by omega) (by omega)
      have f2 := many_c (N := N) (g := g) (own := own) (ps := ps) (p := p) (o := o) bs 176 N 0 hS (Nat.le_refl _) (by omega)
      rw [Nat.zero_add] at f0 f2
      refine Or.inr ?_
      match j, hj with
      | 0, _ => exact ⟨_, gEo (nP_on A.on) (ift rfl (bnd f0 rfl)), hm2.trans (ift rfl rfl)⟩
      | 1, _ => exact ⟨_, gEo (nP_on A.on) (ifn (by decide) (ift rfl (bnd f1 rfl))), hm2.trans (ifn (by decide) (ift rfl rfl))⟩
      | 2, _ => exact ⟨_, gEo (nP_on A.on) (ifn (by decide) (ifn (by decide) (ift rfl (bnd f2 rfl)))), hm2.trans (ifn (by decide) (ifn (by decide) (ift rfl rfl)))⟩
      | 3, _ => exact ⟨_, gEo (nP_on A.on) (ifn (by decide) (ifn (by decide) (ifn (by decide) (ift rfl (bnd rfl rfl))))), hm2.trans (ifn (by decide) (ifn (by decide) (ifn (by decide) (ift rfl rfl))))⟩
      | 4, _ => exact ⟨_, gEo (nP_on A.on) (ifn (by decide) (ifn (by decide) (ifn (by decide) (ifn (by decide) (ift rfl (bnd rfl rfl)))))), hm2.trans (ifn (by decide) (ifn (by decide) (ifn (by decide) (ifn (by decide) (ift rfl rfl)))))⟩
      | 5, _ => exact ⟨_, gEo (nP_on A.on) (ifn (by decide) (ifn (by decide) (ifn (by decide) (ifn (by decide) (ifn (by decide) (ift rfl (bnd (dread_c (w := 0) (by omega)) rfl))))))), hm2.trans (ifn (by decide) (ifn (by decide) (ifn (by decide) (ifn (by decide) (ifn (by decide) (ift rfl (ift (by decide) rfl)))))))⟩
      | 6, _ => exact ⟨nI lan, gEo (nP_on A.on) (ifn (by decide) (ifn (by decide) (ifn (by decide) (ifn (by decide) (ifn (by decide) (ifn (by decide) (ift rfl (bnd rfl rfl)))))))), hm2.trans (ifn (by decide) (ifn (by decide) (ifn (by decide) (ifn (by decide) (ifn (by decide) (ifn (by decide) (ift rfl (by show some ((lN lan).toInt32, _) = _; rw [lN_i]))))))))⟩
      | 7, _ =>
        refine ⟨nI ps.length, gEo (nP_on A.on) (ifn (by decide) (ifn (by decide) (ifn (by decide) (ifn (by decide) (ifn (by decide) (ifn (by decide) (ifn (by decide) (ift rfl (bnd rfl rfl))))))))), hm2.trans (ifn (by decide) (ifn (by decide) (ifn (by decide) (ifn (by decide) (ifn (by decide) (ifn (by decide) (ifn (by decide) ?_)))))))⟩
        by_cases z : o = true
        · exact ift z rfl
        · have e := A.1.1.2.2 (by cases o; rfl; exact absurd rfl z)
          subst e
          exact ifn z rfl
      | j + 8, hj => omega
  rcases bad with ⟨q1, q2⟩ | ⟨x, q1, q2⟩
  · have h1 : f_Law_told N (sL cs lan) d (mkC g own ps p o) vO a = some ((2 : Int32), vO) := gHe q1 (ifn (by decide) (ift rfl rfl))
    exact ⟨_, ift hg (bnd h1 (ift hg (bnd q2 (bnd rfl (eT rfl n2))))), kOn A⟩
  · have h1 : f_Law_told N (sL cs lan) d (mkC g own ps p o) vO a = some ((0 : Int32), vp_updL vO (0 : Int32).toNatClampNeg x.toInt64) := gHo q1 (ift g01 rfl)
    exact ⟨_, ift hg (bnd h1 (ift hg (bnd q2 (bnd rfl (eO rfl rfl (vO0 vO _)))))), kOn A⟩
end
