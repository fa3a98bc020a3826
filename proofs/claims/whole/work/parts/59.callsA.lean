/-! PURE SIDE 20: the calls, first part -/
section
variable {N L : Nat} {xs : Nat → Int32} {t : Nat} {vL : LT} {d : DT} {g own ch : Nat → Int64} {ps : List Nat} {p : Nat → Int32} {o : Bool} {w gn lan : Nat} {cs : List Com} {th : Int32} {us co : Int32} {la : Int64} {vO : Nat → Int64} {y4 : Int32}
theorem psok_nil : psok [] := ⟨List.Pairwise.nil, fun w h => (by cases h), by decide⟩
theorem begin_off (A : Off t d g own) : ∃ u, fc_begin N L xs vL d (mkC g own [] p false) (sX d g ch us co la th) vO y4 = some u ∧ Inv (t + 1) u.1 u.2.1 u.2.2.1 u.2.2.2.1 := by
  have h1 : f_Law_begin vL d (mkC g own [] p false) vO = some ((1 : Int32), mkC g own [] p false, vO) := gHe (gEe (nP_off A.off)) (ift rfl rfl)
  have h2 : f_Mod_begin N (sX d g ch us co la th) = some ((0 : Int32), sX d g ch us co la 1) := ifn (by show ¬ d.2.2.2.2.2.1 = true; rw [A.off]; decide) rfl
  exact ⟨_, bnd h1 (bnd h2 (bnd rfl (eT rfl n1))), kOff A⟩
theorem begin_on (hN : 2000 < N) (A : On t d g own ch ps p o w gn lan cs) : ∃ u, fc_begin N L xs (sL cs lan) d (mkC g own ps p o) (sM d g ch ps o cs lan th) vO y4 = some u ∧ Inv (t + 1) u.1 u.2.1 u.2.2.1 u.2.2.2.1 := by
  cases o with
  | true =>
    have h1 : f_Law_begin (sL cs lan) d (mkC g own ps p true) vO = some ((1 : Int32), mkC g own ps p true, vO) := gHe (gEo (nP_on A.on) (bnd rfl (ift rfl rfl))) (ift rfl rfl)
    have h2 : f_Mod_begin N (sM d g ch ps true cs lan th) = some ((0 : Int32), sM d g ch ps true cs lan 1) := ift A.on (ift rfl rfl)
    exact ⟨_, bnd h1 (bnd h2 (bnd rfl (eT rfl n1))), kOn A⟩
  | false =>
    have e := A.nil
    subst e
    have h1 : f_Law_begin (sL cs lan) d (mkC g own [] p false) vO = some ((0 : Int32), mkC g own [] p true, vp_updL vO (0 : Int32).toNatClampNeg (nI lan + 1).toInt64) := gHo (gEo (nP_on A.on) (bnd rfl (ifn Bool.false_ne_true (bnd rfl (bnd rfl rfl))))) (ift g01 rfl)
    have h3 := drop_m (N := N) d g (chgd []) ch (nI ([] : List Nat).length) false (nI (lsz cs)) (nI cs.length) (lN lan) 0 (by omega)
    rw [icz_nil psok_nil] at h3
    have h2 : f_Mod_begin N (sM d g ch [] false cs lan th) = some ((lN lan + 1).toInt32, sM d g ch [] true cs lan 0) := ift A.on (ifn Bool.false_ne_true (bnd h3 rfl))
    refine ⟨_, bnd h1 (bnd h2 (bnd rfl (eO rfl rfl (vO1 vO (show (nI lan + 1).toInt64 = ((lN lan + 1).toInt32).toInt64 by rw [nI_1, lN_1, lN_i]))))), kOn ⟨⟨⟨A.1.1.1, A.1.1.2.1, fun h => (by cases h)⟩, A.1.2⟩, A.2⟩⟩
theorem root_off (A : Off t d g own) : ∃ u, fc_root N L xs vL d (mkC g own [] p false) (sX d g ch us co la th) vO y4 = some u ∧ Inv (t + 1) u.1 u.2.1 u.2.2.1 u.2.2.2.1 := by
  have h1 : f_Law_root d (mkC g own [] p false) vO = some ((1 : Int32), vO) := gHe (gEe (nP_off A.off)) (ift rfl rfl)
  have h2 : f_Mod_root (sX d g ch us co la th) = some ((0 : Int32), sX d g ch us co la 1) := ifn (by show ¬ d.2.2.2.2.2.1 = true; rw [A.off]; decide) rfl
  exact ⟨_, bnd h1 (bnd h2 (bnd rfl (eT rfl n1))), kOff A⟩
theorem root_on (A : On t d g own ch ps p o w gn lan cs) : ∃ u, fc_root N L xs (sL cs lan) d (mkC g own ps p o) (sM d g ch ps o cs lan th) vO y4 = some u ∧ Inv (t + 1) u.1 u.2.1 u.2.2.1 u.2.2.2.1 := by
  have h1 : f_Law_root d (mkC g own ps p o) vO = some ((0 : Int32), vp_updL vO (0 : Int32).toNatClampNeg (own 1).toInt32.toInt64) := gHo (gEo (nP_on A.on) (bnd (read_c (w := 1) (by omega)) rfl)) (ift g01 rfl)
  have h2 : f_Mod_root (sM d g ch ps o cs lan th) = some ((own 1).toInt32, sM d g ch ps o cs lan 0) := ift A.on (bnd (at_m (w := 1) (by omega) A.1.1.1 A.1.1.2.1 A.1.1.2.2) rfl)
  exact ⟨_, bnd h1 (bnd h2 (bnd rfl (eO rfl rfl (vO0 vO _)))), kOn A⟩
theorem sync_off (A : Off t d g own) : ∃ u, fc_sync N L xs vL d (mkC g own [] p false) (sX d g ch us co la th) vO y4 = some u ∧ Inv (t + 1) u.1 u.2.1 u.2.2.1 u.2.2.2.1 := by
  have h1 : f_Law_sync N d vO = some ((1 : Int32), d, vO) := gHe (gEe (nP_off A.off)) (ift rfl rfl)
  have h2 : f_Mod_sync N (sX d g ch us co la th) = some ((0 : Int32), sX d g ch us co la 1) := ifn (by show ¬ d.2.2.2.2.2.1 = true; rw [A.off]; decide) rfl
  exact ⟨_, bnd h1 (bnd h2 (bnd rfl (eT rfl n1))), kOff A⟩
theorem sync_on' (hN : 2000 < N) (A : On t d g own ch ps p o w gn lan cs) : ∃ u, fc_sync N L xs (sL cs lan) d (mkC g own ps p o) (sM d g ch ps o cs lan th) vO y4 = some u ∧ Inv (t + 1) u.1 u.2.1 u.2.2.1 u.2.2.2.1 := by
  have hd := A.2.2.1
  have hw := A.w160
  have h1 : f_Law_sync N d vO = some ((0 : Int32), sSync d, vp_updL vO (0 : Int32).toNatClampNeg d.2.2.2.2.1.toInt64) := gHo (gEo (nP_on A.on) (bnd rfl (bnd (sync_c d hd.1 (by omega) (by omega)) rfl))) (ift g01 rfl)
  have h2 : f_Mod_sync N (sM d g ch ps o cs lan th) = some (d.2.2.2.2.1, sM (sSync d) g ch ps o cs lan 0) := ift A.on (bnd (sync_m d g (chgd ps) ch (nI ps.length) o (nI (lsz cs)) (nI cs.length) (lN lan) 0 hd.1 (by omega) (by omega)) rfl)
  obtain ⟨b1, b2⟩ := sync_on hd (by omega)
  have A' : On t (sSync d) g own ch ps p o 0 gn lan cs := by
    obtain ⟨c1, c2, c3, c4, c5, c6, c7⟩ := A.2.2
    refine ⟨A.1, A.2.1, b1, Nat.zero_le _, ?_, ?_, ?_, c6, ?_⟩
    · rw [b2]; exact c3
    · rw [b2]; exact c4
    · rw [b2]; exact c5
    · rw [b2]; exact c7
  exact ⟨_, bnd h1 (bnd h2 (bnd rfl (eO rfl rfl (vO0 vO _)))), kOn A'⟩
theorem abort_off (A : Off t d g own) : ∃ u, fc_abort N L xs vL d (mkC g own [] p false) (sX d g ch us co la th) vO y4 = some u ∧ Inv (t + 1) u.1 u.2.1 u.2.2.1 u.2.2.2.1 := by
  have h1 : f_Law_abort N d (mkC g own [] p false) vO = some ((1 : Int32), mkC g own [] p false, vO) := gHe (gEe (nT_off A.off)) (ift rfl rfl)
  have h2 : f_Mod_abort N (sX d g ch us co la th) = some ((0 : Int32), sX d g ch us co la 1) := bnd sh_shut (ift rfl rfl)
  exact ⟨_, bnd h1 (bnd h2 (bnd rfl (eT rfl n1))), kOff A⟩
theorem On_drop (A : On t d g own ch ps p o w gn lan cs) : On t d g g ch [] p false w gn lan cs := by
  obtain ⟨c1, c2, c3, c4, c5, c6, c7⟩ := A.2.2
  obtain ⟨bs, hb⟩ := c3.2.2.2.2.2.2.2.2
  refine ⟨⟨⟨fun _ _ => rfl, fun _ h => (by cases h), fun _ => rfl⟩, psok_nil, fun j x h => (by cases h), fun x h => (by cases h)⟩, ⟨bs, Seg_congr hb (fun j q1 q2 => c7 j (by omega) q2)⟩, A.2.2⟩
theorem abort_on (hN : 2000 < N) (A : On t d g own ch ps p o w gn lan cs) : ∃ u, fc_abort N L xs (sL cs lan) d (mkC g own ps p o) (sM d g ch ps o cs lan th) vO y4 = some u ∧ Inv (t + 1) u.1 u.2.1 u.2.2.1 u.2.2.2.1 := by
  cases o with
  | false =>
    have h1 : f_Law_abort N d (mkC g own ps p false) vO = some ((1 : Int32), mkC g own ps p false, vO) := gHe (gEe (nT_shut A.on)) (ift rfl rfl)
    have h2 : f_Mod_abort N (sM d g ch ps false cs lan th) = some ((0 : Int32), sM d g ch ps false cs lan 1) := bnd sh_shut (ift rfl rfl)
    exact ⟨_, bnd h1 (bnd h2 (bnd rfl (eT rfl n1))), kOn A⟩
  | true =>
    have h1 : f_Law_abort N d (mkC g own ps p true) vO = some ((0 : Int32), mkC g g [] p false, vp_updL vO (0 : Int32).toNatClampNeg (nI ps.length).toInt64) := gHo (gEo (nT_on A.on) (bnd rfl (bnd (takeBack_c A.1.2.1 A.1.2.2.1 A.1.1.1 (by omega)) rfl))) (ift g01 rfl)
    have h3 := drop_m (N := N) d g (chgd ps) ch (nI ps.length) true (nI (lsz cs)) (nI cs.length) (lN lan) 0 (by omega)
    rw [icz_nil A.1.2.1] at h3
    have h2 : f_Mod_abort N (sM d g ch ps true cs lan th) = some (nI ps.length, sM d g ch [] false cs lan 0) := bnd (sh_on A.on) (ifn Bool.false_ne_true (bnd h3 rfl))
    exact ⟨_, bnd h1 (bnd h2 (bnd rfl (eO rfl rfl (vO0 vO _)))), kOn (On_drop A)⟩
end
