/-! PURE SIDE 22: the calls, third part -/
theorem m1_lt : (-1 : Int32) < 0 := by decide
section
variable {N L : Nat} {xs : Nat → Int32} {t : Nat} {vL : LT} {d : DT} {g own ch : Nat → Int64} {ps : List Nat} {p : Nat → Int32} {o : Bool} {w gn lan : Nat} {cs : List Com} {th : Int32} {us co : Int32} {la : Int64} {vO : Nat → Int64} {i : Nat}
/-- a used block's word, for both sides -/
theorem used_cm (hN : 2000 < N) (A : On t d g own ch ps p o w gn lan cs) (a : Int32) : (∃ k n B1 B2, 176 ≤ k ∧ 1 ≤ n ∧ k + 1 + n ≤ 1024 ∧ own k = hd n true ∧ a = nI (k + 1) ∧ Seg own 176 B1 k ∧ Seg own (k + 1 + n) B2 1024 ∧ f_Blk_isUsedAddress N (mkC g own ps p o) a = some true ∧ ∀ th, f_Mod_usedHead N (sM d g ch ps o cs lan th) a = some (nI k)) ∨ (f_Blk_isUsedAddress N (mkC g own ps p o) a = some false ∧ ∀ th, f_Mod_usedHead N (sM d g ch ps o cs lan th) a = some (-1)) := by
  obtain ⟨bs, hS⟩ := A.2.1
  rcases used_both (N := N) (d := d) (p := p) (us := nI (lsz cs)) (co := nI cs.length) (la := lN lan) (th := 0) (cn := nI ps.length) A.1.1 a bs 176 N hS (Nat.le_refl _) (by omega) with ⟨k, n, h1, h2, h3, h4, h5, ⟨B1, B2, h6, h7, h8⟩, h9, h10⟩ | ⟨h9, h10⟩
  · refine Or.inl ⟨k, n, B1, B2, h1, h2, h3, h4, h5, h7, h8, h9, fun th => ?_⟩
    rcases used_both (N := N) (d := d) (p := p) (us := nI (lsz cs)) (co := nI cs.length) (la := lN lan) (th := th) (cn := nI ps.length) A.1.1 a bs 176 N hS (Nat.le_refl _) (by omega) with ⟨k', n', e1, e2, e3, e4, e5, _, e9, e10⟩ | ⟨e9, e10⟩
    · have : nI (k + 1) = nI (k' + 1) := h5.symm.trans e5
      rw [nI_eq (by omega) (by omega)] at this
      have e : k = k' := by omega
      rw [e]
      exact e10
    · rw [h9] at e9
      cases e9
  · refine Or.inr ⟨h9, fun th => ?_⟩
    rcases used_both (N := N) (d := d) (p := p) (us := nI (lsz cs)) (co := nI cs.length) (la := lN lan) (th := th) (cn := nI ps.length) A.1.1 a bs 176 N hS (Nat.le_refl _) (by omega) with ⟨k', n', e1, e2, e3, e4, e5, _, e9, e10⟩ | ⟨e9, e10⟩
    · rw [h9] at e9
      cases e9
    · exact e10
theorem get_off (hL : L < 2 ^ 31) (hi : i + 5 ≤ L) (A : Off t d g own) : ∃ u, fc_get N L xs vL d (mkC g own [] p false) (sX d g ch us co la th) vO (nI i) = some u ∧ Inv (t + 1) u.1 u.2.1 u.2.2.1 u.2.2.2.1 := by
  have hg : gI (nI i + (1 : Int32)) L = true := gk (k := 1) rfl (by omega) hL
  have hg2 : gI (nI i + (2 : Int32)) L = true := gk (k := 2) rfl (by omega) hL
  unfold fc_get
  generalize xs (nI i + (1 : Int32)).toNatClampNeg = a
  generalize xs (nI i + (2 : Int32)).toNatClampNeg = b
  have hof : ¬ d.2.2.2.2.2.1 = true := by rw [A.off]; decide
  have h1 : f_Law_get N d (mkC g own [] p false) vO a b = some ((1 : Int32), vO) := gHe (gEe (nP_off A.off)) (ift rfl rfl)
  have h2 : f_Mod_get N (sX d g ch us co la th) a b = some ((0 : Int64), sX d g ch us co la 1) := ifn hof (ifn hof rfl)
  exact ⟨_, ift hg (ift hg2 (bnd h1 (ift hg (ift hg2 (bnd h2 (bnd rfl (eT rfl n1))))))), kOff A⟩
/-- a word of a used block: both sides find it, or both refuse -/
theorem body_cm (hN : 2000 < N) (A : On t d g own ch ps p o w gn lan cs) (a b : Int32) : (∃ k n j B1 B2, 176 ≤ k ∧ 1 ≤ n ∧ k + 1 + n ≤ 1024 ∧ own k = hd n true ∧ Seg own 176 B1 k ∧ Seg own (k + 1 + n) B2 1024 ∧ j < n ∧ a + b = nI (k + 1 + j) ∧ b = nI j ∧ (∀ th, f_Mod_usedHead N (sM d g ch ps o cs lan th) a = some (nI k)) ∧ (∀ th, f_Mod_sizeAt (sM d g ch ps o cs lan th) (nI k) = some (nI n)) ∧ f_Heap_needBodyWord N (mkC g own ps p o) a b = some (.ok ())) ∨ (f_Heap_needBodyWord N (mkC g own ps p o) a b = some (.error "java/lang/IllegalArgumentException") ∧ ((∀ th, f_Mod_usedHead N (sM d g ch ps o cs lan th) a = some (-1)) ∨ ∃ k n, k < 1024 ∧ (∀ th, f_Mod_usedHead N (sM d g ch ps o cs lan th) a = some (nI k)) ∧ (∀ th, f_Mod_sizeAt (sM d g ch ps o cs lan th) (nI k) = some (nI n)) ∧ (b < 0 ∨ ¬ b < nI n))) := by
  rcases used_cm hN A a with ⟨k, n, B1, B2, h1, h2, h3, h4, h5, h6, h7, h8, h9⟩ | ⟨h8, h9⟩
  · have hs : ∀ th, f_Mod_sizeAt (sM d g ch ps o cs lan th) (nI k) = some (nI n) := fun th => sizeAt_m A.1.1.1 A.1.1.2.1 A.1.1.2.2 (by omega) (by omega) h4
    have hu : f_Heap_needUsedBlock N (mkC g own ps p o) a = some (.ok ()) := bnd h8 (ift rfl rfl)
    have ea : a - (1 : Int32) = nI k := by rw [h5]; exact nI_pred k
    have hz : f_Blk_sizeAt (mkC g own ps p o) (a - (1 : Int32)) = some (nI n) := by rw [ea]; exact sizeAt_c h1 h2 h3 h4
    by_cases q : b < 0
    · exact Or.inr ⟨gEo hu (ift q rfl), Or.inr ⟨k, n, by omega, h9, hs, Or.inl q⟩⟩
    · by_cases q2 : b < nI n
      · obtain ⟨j, hj, rfl⟩ := nI_of q
        rw [nI_ltI hj (by omega)] at q2
        refine Or.inl ⟨k, n, j, B1, B2, h1, h2, h3, h4, h6, h7, q2, ?_, rfl, h9, hs, gEo hu (ifn q (bnd hz (ift (nI_lt q2 (by omega)) rfl)))⟩
        rw [h5, nI_add]
      · exact Or.inr ⟨gEo hu (ifn q (bnd hz (ifn q2 rfl))), Or.inr ⟨k, n, by omega, h9, hs, Or.inr q2⟩⟩
  · exact Or.inr ⟨gEe (bnd h8 (ifn Bool.false_ne_true rfl)), Or.inl h9⟩
theorem get_on (hN : 2000 < N) (hL : L < 2 ^ 31) (hi : i + 5 ≤ L) (A : On t d g own ch ps p o w gn lan cs) : ∃ u, fc_get N L xs (sL cs lan) d (mkC g own ps p o) (sM d g ch ps o cs lan th) vO (nI i) = some u ∧ Inv (t + 1) u.1 u.2.1 u.2.2.1 u.2.2.2.1 := by
  have hg : gI (nI i + (1 : Int32)) L = true := gk (k := 1) rfl (by omega) hL
  have hg2 : gI (nI i + (2 : Int32)) L = true := gk (k := 2) rfl (by omega) hL
  unfold fc_get
  generalize xs (nI i + (1 : Int32)).toNatClampNeg = a
  generalize xs (nI i + (2 : Int32)).toNatClampNeg = b
  rcases body_cm hN A a b with ⟨k, n, j, B1, B2, h1, h2, h3, h4, h5, h6, h7, h8, h8b, h9, h10, h11⟩ | ⟨h11, h12⟩
  · have q1 : f_Law_get N d (mkC g own ps p o) vO a b = some ((0 : Int32), vp_updL vO (0 : Int32).toNatClampNeg (own (k + 1 + j))) := gHo (gEo (nP_on A.on) (gEo h11 (bnd (by rw [h8]; exact read_c (by omega)) rfl))) (ift g01 rfl)
    have q2 : f_Mod_get N (sM d g ch ps o cs lan th) a b = some (own (k + 1 + j), sM d g ch ps o cs lan 0) := ift A.on (bnd (h9 th) (ift A.on (ifn (nI_pos (by omega)) (ifn (by rw [h8b]; exact nI_pos (by omega)) (bnd (h10 th) (ift (by rw [h8b]; exact nI_lt h7 (by omega)) (bnd (by rw [h8]; exact at_m (by omega) A.1.1.1 A.1.1.2.1 A.1.1.2.2) rfl)))))))
    exact ⟨_, ift hg (ift hg2 (bnd q1 (ift hg (ift hg2 (bnd q2 (bnd rfl (eO rfl rfl (vO0 vO _)))))))), kOn A⟩
  · have q1 : f_Law_get N d (mkC g own ps p o) vO a b = some ((2 : Int32), vO) := gHe (gEo (nP_on A.on) (gEe h11)) (ifn (by decide) (ift rfl rfl))
    have q2 : f_Mod_get N (sM d g ch ps o cs lan th) a b = some ((0 : Int64), sM d g ch ps o cs lan 2) := by
      refine ift A.on ?_
      rcases h12 with h9 | ⟨k, n, hk, h9, h10, hr⟩
      · exact bnd (h9 th) (ift A.on (ift m1_lt rfl))
      · refine bnd (h9 th) (ift A.on (ifn (nI_pos (by omega)) ?_))
        by_cases z : b < 0
        · exact ift z rfl
        · exact ifn z (bnd (h10 th) (ifn (hr.resolve_left z) rfl))
    exact ⟨_, ift hg (ift hg2 (bnd q1 (ift hg (ift hg2 (bnd q2 (bnd rfl (eT rfl n2))))))), kOn A⟩
theorem On_TS {own' ch' : Nat → Int64} {ps' : List Nat} {p' : Nat → Int32} (A : On t d g own ch ps p o w gn lan cs) (H : TS g own' ch' ps' p') (hS : ∃ bs, Seg own' 176 bs 1024) : On t d g own' ch' ps' p' true w gn lan cs := ⟨⟨H.1, H.2⟩, hS, A.2.2⟩
theorem On.ts (A : On t d g own ch ps p true w gn lan cs) : TS g own ch ps p := A.1
theorem set_off (hL : L < 2 ^ 31) (hi : i + 5 ≤ L) (A : Off t d g own) : ∃ u, fc_set N L xs vL d (mkC g own [] p false) (sX d g ch us co la th) vO (nI i) = some u ∧ Inv (t + 1) u.1 u.2.1 u.2.2.1 u.2.2.2.1 := by
  have hg : gI (nI i + (1 : Int32)) L = true := gk (k := 1) rfl (by omega) hL
  have hg2 : gI (nI i + (2 : Int32)) L = true := gk (k := 2) rfl (by omega) hL
  have hg3 : gI (nI i + (3 : Int32)) L = true := gk (k := 3) rfl (by omega) hL
  have hg4 : gI (nI i + (4 : Int32)) L = true := gk (k := 4) rfl (by omega) hL
  unfold fc_set
  generalize xs (nI i + (1 : Int32)).toNatClampNeg = a
  generalize xs (nI i + (2 : Int32)).toNatClampNeg = b
  generalize (((xs (nI i + (3 : Int32)).toNatClampNeg).toInt64) <<< ((32 : Int32).toInt64 &&& 63)) ||| (((xs (nI i + (4 : Int32)).toNatClampNeg).toInt64) &&& (4294967295 : Int64)) = x
  have h1 : f_Law_set N d (mkC g own [] p false) vO a b x = some ((1 : Int32), mkC g own [] p false, vO) := gHe (gEe (nT_off A.off)) (ift rfl rfl)
  have h2 : f_Mod_set N (sX d g ch us co la th) a b x = some (false, sX d g ch us co la 1) := bnd sh_shut (ift rfl (bnd sh_shut (ift rfl rfl)))
  exact ⟨_, ift hg (ift hg2 (ift hg3 (ift hg4 (bnd h1 (ift hg (ift hg2 (ift hg3 (ift hg4 (bnd h2 (bnd rfl (eT rfl n1))))))))))), kOff A⟩
theorem set_on (hN : 2000 < N) (hL : L < 2 ^ 31) (hi : i + 5 ≤ L) (A : On t d g own ch ps p o w gn lan cs) : ∃ u, fc_set N L xs (sL cs lan) d (mkC g own ps p o) (sM d g ch ps o cs lan th) vO (nI i) = some u ∧ Inv (t + 1) u.1 u.2.1 u.2.2.1 u.2.2.2.1 := by
  have hg : gI (nI i + (1 : Int32)) L = true := gk (k := 1) rfl (by omega) hL
  have hg2 : gI (nI i + (2 : Int32)) L = true := gk (k := 2) rfl (by omega) hL
  have hg3 : gI (nI i + (3 : Int32)) L = true := gk (k := 3) rfl (by omega) hL
  have hg4 : gI (nI i + (4 : Int32)) L = true := gk (k := 4) rfl (by omega) hL
  unfold fc_set
  generalize xs (nI i + (1 : Int32)).toNatClampNeg = a
  generalize xs (nI i + (2 : Int32)).toNatClampNeg = b
  generalize (((xs (nI i + (3 : Int32)).toNatClampNeg).toInt64) <<< ((32 : Int32).toInt64 &&& 63)) ||| (((xs (nI i + (4 : Int32)).toNatClampNeg).toInt64) &&& (4294967295 : Int64)) = x
  cases o with
  | false =>
    have h1 : f_Law_set N d (mkC g own ps p false) vO a b x = some ((1 : Int32), mkC g own ps p false, vO) := gHe (gEe (nT_shut A.on)) (ift rfl rfl)
    have h2 : f_Mod_set N (sM d g ch ps false cs lan th) a b x = some (false, sM d g ch ps false cs lan 1) := bnd sh_shut (ift rfl (bnd sh_shut (ift rfl rfl)))
    exact ⟨_, ift hg (ift hg2 (ift hg3 (ift hg4 (bnd h1 (ift hg (ift hg2 (ift hg3 (ift hg4 (bnd h2 (bnd rfl (eT rfl n1))))))))))), kOn A⟩
  | true =>
    have hne : ¬ (false = true) := Bool.false_ne_true
    rcases body_cm hN A a b with ⟨k, n, j, B1, B2, h1, h2, h3, h4, h5, h6, h7, h8, h8b, h9, h10, h11⟩ | ⟨h11, h12⟩
    · rcases try_both (N := N) (d := d) (us := nI (lsz cs)) (co := nI cs.length) (la := lN lan) (th := 0) (w := k + 1 + j) (x := x) A.ts (by omega) (by omega) (by omega) with ⟨p', ch', r1, r2, r3⟩ | ⟨r1, r2⟩
      · rw [← h8] at r1 r2
        have q1 : f_Law_set N d (mkC g own ps p true) vO a b x = some ((0 : Int32), mkC g (vp_updL own (k + 1 + j) x) (psN own ps (k + 1 + j) x) p' true, vp_updL vO (0 : Int32).toNatClampNeg 1) := gHo (gEo (nT_on A.on) (gEo h11 (bnd r1 rfl))) (ift rfl (ift g01 rfl))
        have q2 : f_Mod_set N (sM d g ch ps true cs lan th) a b x = some (true, sM d g ch' (psN own ps (k + 1 + j) x) true cs lan 0) := bnd (sh_on A.on) (ifn hne (bnd (h9 th) (bnd (sh_on A.on) (ifn hne (ifn (nI_pos (by omega)) (ifn (by rw [h8b]; exact nI_pos (by omega)) (bnd (h10 th) (ift (by rw [h8b]; exact nI_lt h7 (by omega)) (bnd r2 (ift rfl rfl))))))))))
        refine ⟨_, ift hg (ift hg2 (ift hg3 (ift hg4 (bnd q1 (ift hg (ift hg2 (ift hg3 (ift hg4 (bnd q2 (bnd rfl (eB rfl rfl (vO0 vO _) rfl))))))))))), kOn (On_TS A r3 ⟨B1 ++ (n, true) :: B2, Seg_app.mpr ⟨k, Seg_congr h5 (fun z z1 z2 => pk_uLn (by omega)), h2, ?_, Seg_congr h6 (fun z z1 z2 => pk_uLn (by omega))⟩⟩)⟩
        rw [pk_uLn (by omega)]
        exact h4
      · rw [← h8] at r1 r2
        have q1 : f_Law_set N d (mkC g own ps p true) vO a b x = some ((0 : Int32), mkC g own ps p true, vp_updL vO (0 : Int32).toNatClampNeg 0) := gHo (gEo (nT_on A.on) (gEo h11 (bnd r1 rfl))) (ifn hne (ift g01 rfl))
        have q2 : f_Mod_set N (sM d g ch ps true cs lan th) a b x = some (false, sM d g ch ps true cs lan 0) := bnd (sh_on A.on) (ifn hne (bnd (h9 th) (bnd (sh_on A.on) (ifn hne (ifn (nI_pos (by omega)) (ifn (by rw [h8b]; exact nI_pos (by omega)) (bnd (h10 th) (ift (by rw [h8b]; exact nI_lt h7 (by omega)) (bnd r2 (ifn hne rfl))))))))))
        exact ⟨_, ift hg (ift hg2 (ift hg3 (ift hg4 (bnd q1 (ift hg (ift hg2 (ift hg3 (ift hg4 (bnd q2 (bnd rfl (eB rfl rfl (vO0 vO _) rfl))))))))))), kOn A⟩
    · have q1 : f_Law_set N d (mkC g own ps p true) vO a b x = some ((2 : Int32), mkC g own ps p true, vO) := gHe (gEo (nT_on A.on) (gEe h11)) (ifn (by decide) (ift rfl rfl))
      have q2 : f_Mod_set N (sM d g ch ps true cs lan th) a b x = some (false, sM d g ch ps true cs lan 2) := by
        refine bnd (sh_on A.on) (ifn hne ?_)
        rcases h12 with h9 | ⟨k, n, hk, h9, h10, hr⟩
        · exact bnd (h9 th) (bnd (sh_on A.on) (ifn hne (ift m1_lt rfl)))
        · refine bnd (h9 th) (bnd (sh_on A.on) (ifn hne (ifn (nI_pos (by omega)) ?_)))
          by_cases z : b < 0
          · exact ift z rfl
          · exact ifn z (bnd (h10 th) (ifn (hr.resolve_left z) rfl))
      exact ⟨_, ift hg (ift hg2 (ift hg3 (ift hg4 (bnd q1 (ift hg (ift hg2 (ift hg3 (ift hg4 (bnd q2 (bnd rfl (eT rfl n2))))))))))), kOn A⟩
theorem setRoot_off (hL : L < 2 ^ 31) (hi : i + 5 ≤ L) (A : Off t d g own) : ∃ u, fc_setRoot N L xs vL d (mkC g own [] p false) (sX d g ch us co la th) vO (nI i) = some u ∧ Inv (t + 1) u.1 u.2.1 u.2.2.1 u.2.2.2.1 := by
  have hg : gI (nI i + (1 : Int32)) L = true := gk (k := 1) rfl (by omega) hL
  unfold fc_setRoot
  generalize xs (nI i + (1 : Int32)).toNatClampNeg = a
  have h1 : f_Law_setRoot N d (mkC g own [] p false) vO a = some ((1 : Int32), mkC g own [] p false, vO) := gHe (gEe (nT_off A.off)) (ift rfl rfl)
  have h2 : f_Mod_setRoot N (sX d g ch us co la th) a = some (false, sX d g ch us co la 1) := bnd sh_shut (ift rfl rfl)
  exact ⟨_, ift hg (bnd h1 (ift hg (bnd h2 (bnd rfl (eT rfl n1))))), kOff A⟩
theorem setRoot_on (hN : 2000 < N) (hL : L < 2 ^ 31) (hi : i + 5 ≤ L) (A : On t d g own ch ps p o w gn lan cs) : ∃ u, fc_setRoot N L xs (sL cs lan) d (mkC g own ps p o) (sM d g ch ps o cs lan th) vO (nI i) = some u ∧ Inv (t + 1) u.1 u.2.1 u.2.2.1 u.2.2.2.1 := by
  have hg : gI (nI i + (1 : Int32)) L = true := gk (k := 1) rfl (by omega) hL
  unfold fc_setRoot
  generalize xs (nI i + (1 : Int32)).toNatClampNeg = a
  cases o with
  | false =>
    have h1 : f_Law_setRoot N d (mkC g own ps p false) vO a = some ((1 : Int32), mkC g own ps p false, vO) := gHe (gEe (nT_shut A.on)) (ift rfl rfl)
    have h2 : f_Mod_setRoot N (sM d g ch ps false cs lan th) a = some (false, sM d g ch ps false cs lan 1) := bnd sh_shut (ift rfl rfl)
    exact ⟨_, ift hg (bnd h1 (ift hg (bnd h2 (bnd rfl (eT rfl n1))))), kOn A⟩
  | true =>
    have hne : ¬ (false = true) := Bool.false_ne_true
    have hok : (a = 0 ∨ (¬ a = 0 ∧ f_Heap_needUsedBlock N (mkC g own ps p true) a = some (.ok ()) ∧ ∃ k, k < 1024 ∧ f_Mod_usedHead N (sM d g ch ps true cs lan th) a = some (nI k))) ∨ (¬ a = 0 ∧ f_Heap_needUsedBlock N (mkC g own ps p true) a = some (.error "java/lang/IllegalArgumentException") ∧ f_Mod_usedHead N (sM d g ch ps true cs lan th) a = some (-1)) := by
      by_cases z : a = 0
      · exact Or.inl (Or.inl z)
      · rcases used_cm hN A a with ⟨k, n, B1, B2, h1, h2, h3, h4, h5, h6, h7, h8, h9⟩ | ⟨h8, h9⟩
        · exact Or.inl (Or.inr ⟨z, bnd h8 (ift rfl rfl), k, by omega, h9 th⟩)
        · exact Or.inr ⟨z, bnd h8 (ifn hne rfl), h9 th⟩
    rcases hok with hok | ⟨z, h8, h9⟩
    · obtain ⟨bs, hS⟩ := A.2.1
      rcases try_both (N := N) (d := d) (us := nI (lsz cs)) (co := nI cs.length) (la := lN lan) (th := 0) (w := 1) (x := a.toInt64) A.ts (by omega) (by omega) (by omega) with ⟨p', ch', r1, r2, r3⟩ | ⟨r1, r2⟩
      · have q1 : f_Law_setRoot N d (mkC g own ps p true) vO a = some ((0 : Int32), mkC g (vp_updL own 1 a.toInt64) (psN own ps 1 a.toInt64) p' true, vp_updL vO (0 : Int32).toNatClampNeg 1) := by
          refine gHo (y := (true, mkC g (vp_updL own 1 a.toInt64) (psN own ps 1 a.toInt64) p' true)) (gEo (nT_on A.on) ?_) (ift rfl (ift g01 rfl))
          rcases hok with z | ⟨z, h8, _⟩
          · exact ift z (bnd r1 rfl)
          · exact ifn z (gEo h8 (bnd r1 rfl))
        have q2 : f_Mod_setRoot N (sM d g ch ps true cs lan th) a = some (true, sM d g ch' (psN own ps 1 a.toInt64) true cs lan 0) := by
          refine bnd (sh_on A.on) (ifn hne ?_)
          rcases hok with z | ⟨z, h8, k, hk, h9⟩
          · exact ift z (bnd r2 (ift rfl rfl))
          · exact ifn z (bnd h9 (ift (nI_pos' (by omega)) (bnd r2 (ift rfl rfl))))
        exact ⟨_, ift hg (bnd q1 (ift hg (bnd q2 (bnd rfl (eB rfl rfl (vO0 vO _) rfl))))), kOn (On_TS A r3 ⟨bs, Seg_congr hS (fun z z1 z2 => pk_uLn (by omega))⟩)⟩
      · have q1 : f_Law_setRoot N d (mkC g own ps p true) vO a = some ((0 : Int32), mkC g own ps p true, vp_updL vO (0 : Int32).toNatClampNeg 0) := by
          refine gHo (y := (false, mkC g own ps p true)) (gEo (nT_on A.on) ?_) (ifn hne (ift g01 rfl))
          rcases hok with z | ⟨z, h8, _⟩
          · exact ift z (bnd r1 rfl)
          · exact ifn z (gEo h8 (bnd r1 rfl))
        have q2 : f_Mod_setRoot N (sM d g ch ps true cs lan th) a = some (false, sM d g ch ps true cs lan 0) := by
          refine bnd (sh_on A.on) (ifn hne ?_)
          rcases hok with z | ⟨z, h8, k, hk, h9⟩
          · exact ift z (bnd r2 (ifn hne rfl))
          · exact ifn z (bnd h9 (ift (nI_pos' (by omega)) (bnd r2 (ifn hne rfl))))
        exact ⟨_, ift hg (bnd q1 (ift hg (bnd q2 (bnd rfl (eB rfl rfl (vO0 vO _) rfl))))), kOn A⟩
    · have q1 : f_Law_setRoot N d (mkC g own ps p true) vO a = some ((2 : Int32), mkC g own ps p true, vO) := gHe (gEo (nT_on A.on) (ifn z (gEe h8))) (ifn (by decide) (ift rfl rfl))
      have q2 : f_Mod_setRoot N (sM d g ch ps true cs lan th) a = some (false, sM d g ch ps true cs lan 2) := bnd (sh_on A.on) (ifn hne (ifn z (bnd h9 (ifn (by decide) rfl))))
      exact ⟨_, ift hg (bnd q1 (ift hg (bnd q2 (bnd rfl (eT rfl n2))))), kOn A⟩
end
