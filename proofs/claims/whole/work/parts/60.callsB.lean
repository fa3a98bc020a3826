/-! PURE SIDE 21: the calls, second part -/
theorem gk {i k L : Nat} {K : Int32} (hK : K = nI k) (h : i + k < L) (hL : L < 2 ^ 31) : gI (nI i + K) L = true := by
  rw [hK, nI_add]
  exact gI_nI h hL
section
variable {N L : Nat} {xs : Nat → Int32} {t : Nat} {vL : LT} {d : DT} {g own ch : Nat → Int64} {ps : List Nat} {p : Nat → Int32} {o : Bool} {w gn lan : Nat} {cs : List Com} {th : Int32} {us co : Int32} {la : Int64} {vO : Nat → Int64} {i : Nat} {v : Nat → Int64} {ic : Nat → Int32} {n : Int32} {vC : CT}
theorem word_g (hL : L < 2 ^ 31) (hi : i + 5 ≤ L) (hI : ∀ th', Inv (t + 1) vL d vC (mkM d v ic ch n o us co la th')) : ∃ u, fc_word N L xs vL d vC (mkM d v ic ch n o us co la th) vO (nI i) = some u ∧ Inv (t + 1) u.1 u.2.1 u.2.2.1 u.2.2.2.1 := by
  have hg : gI (nI i + (1 : Int32)) L = true := gk (k := 1) rfl (by omega) hL
  unfold fc_word
  generalize xs (nI i + (1 : Int32)).toNatClampNeg = a
  rcases isW_of a with ⟨k, hk, rfl, hw⟩ | ⟨hr, hw⟩
  · have h1 : f_Law_word d vO (nI k) = some ((0 : Int32), vp_updL vO (0 : Int32).toNatClampNeg (d.1 (nI k).toNatClampNeg)) := gHo (bnd hw (ift rfl (bnd (bnd hw (ift rfl (ift (gI_nI hk (by omega)) rfl))) rfl))) (ift g01 rfl)
    have h2 : f_Mod_word (mkM d v ic ch n o us co la th) (nI k) = some (d.1 (nI k).toNatClampNeg, mkM d v ic ch n o us co la 0) := ifn (nI_pos (by omega)) (ift (nI_lt (b := 1024) hk (by omega)) (ift (gI_nI hk (by omega)) rfl))
    exact ⟨_, ift hg (bnd h1 (ift hg (bnd h2 (bnd rfl (eO rfl rfl (vO0 vO _)))))), hI 0⟩
  · have h1 : f_Law_word d vO a = some ((1 : Int32), vO) := gHe (bnd hw (ifn Bool.false_ne_true rfl)) (ift rfl rfl)
    have h2 : f_Mod_word (mkM d v ic ch n o us co la th) a = some ((0 : Int64), mkM d v ic ch n o us co la 1) := by
      unfold f_Mod_word
      by_cases q : a < 0
      · exact ift q rfl
      · exact ifn q (ifn (fun z => Int32.not_lt.mpr (hr.resolve_left q) z) rfl)
    exact ⟨_, ift hg (bnd h1 (ift hg (bnd h2 (bnd rfl (eT rfl n1))))), hI 1⟩
theorem count_g (hL : L < 2 ^ 31) (hi : i + 5 ≤ L) (ho : vC.2.2.2.2.2 = o) (hI : ∀ th', Inv (t + 1) vL d vC (mkM d v ic ch n o us co la th')) : ∃ u, fc_count N L xs vL d vC (mkM d v ic ch n o us co la th) vO (nI i) = some u ∧ Inv (t + 1) u.1 u.2.1 u.2.2.1 u.2.2.2.1 := by
  have hg : gI (nI i + (1 : Int32)) L = true := gk (k := 1) rfl (by omega) hL
  unfold fc_count
  generalize xs (nI i + (1 : Int32)).toNatClampNeg = a
  have key : ∀ (x : Int32), f_Heap_count d vC a = some (.ok x) → f_Mod_count (mkM d v ic ch n o us co la th) a = some (x, mkM d v ic ch n o us co la 0) → ∃ u, (if gI (nI i + (1 : Int32)) L = true then (f_Law_count d vC vO a).bind fun x2 => if gI (nI i + (1 : Int32)) L = true then (f_Mod_count (mkM d v ic ch n o us co la th) a).bind fun x5 => (f_Mod_thrown x5.2).bind fun x7 => if x7 = x2.1 then if x2.1 = 0 then if gI (0 : Int32) 1 = true then if (lg_cmp (x2.2 (0 : Int32).toNatClampNeg) x5.1.toInt64) = 0 then some (vL, d, vC, x5.2, x2.2) else none else none else some (vL, d, vC, x5.2, x2.2) else none else none else none) = some u ∧ Inv (t + 1) u.1 u.2.1 u.2.2.1 u.2.2.2.1 := fun x q1 q2 => by
    have h1 : f_Law_count d vC vO a = some ((0 : Int32), vp_updL vO (0 : Int32).toNatClampNeg x.toInt64) := gHo q1 (ift g01 rfl)
    exact ⟨_, ift hg (bnd h1 (ift hg (bnd q2 (bnd rfl (eO rfl rfl (vO0 vO _)))))), hI 0⟩
  have bad : (a < 0 ∨ nI 7 ≤ a) → ∃ u, (if gI (nI i + (1 : Int32)) L = true then (f_Law_count d vC vO a).bind fun x2 => if gI (nI i + (1 : Int32)) L = true then (f_Mod_count (mkM d v ic ch n o us co la th) a).bind fun x5 => (f_Mod_thrown x5.2).bind fun x7 => if x7 = x2.1 then if x2.1 = 0 then if gI (0 : Int32) 1 = true then if (lg_cmp (x2.2 (0 : Int32).toNatClampNeg) x5.1.toInt64) = 0 then some (vL, d, vC, x5.2, x2.2) else none else none else some (vL, d, vC, x5.2, x2.2) else none else none else none) = some u ∧ Inv (t + 1) u.1 u.2.1 u.2.2.1 u.2.2.2.1 := fun hr => by
    have hne : ∀ j, j < 7 → ¬ a = nI j := fun j hj q => by
      subst q
      rcases hr with z | z
      · exact nI_pos (by omega) z
      · exact nI_ge hj (by omega) z
    have h1 : f_Law_count d vC vO a = some ((1 : Int32), vO) := gHe (ifn (hne 0 (by omega)) (ifn (hne 1 (by omega)) (ifn (hne 2 (by omega)) (ifn (hne 3 (by omega)) (ifn (hne 4 (by omega)) (ifn (hne 5 (by omega)) (ifn (hne 6 (by omega)) rfl))))))) (ift rfl rfl)
    have h2 : f_Mod_count (mkM d v ic ch n o us co la th) a = some ((0 : Int32), mkM d v ic ch n o us co la 1) := by
      unfold f_Mod_count
      by_cases q : a < 0
      · exact ift q rfl
      · refine ifn q (ifn (fun z => ?_) rfl)
        have h7 := hr.resolve_left q
        exact absurd (Int32.le_trans h7 z) (by decide)
    exact ⟨_, ift hg (bnd h1 (ift hg (bnd h2 (bnd rfl (eT rfl n1))))), hI 1⟩
  rcases pk_ix a (n := 7) (by omega) with hr | hr | ⟨j, hj, rfl⟩
  · exact bad (Or.inl hr)
  · exact bad (Or.inr hr)
  · match j, hj with
    | 0, _ =>
      by_cases q : d.2.2.2.2.2.1 = true
      · exact key 1 (ift rfl (bnd rfl (ift q rfl))) (ifn (by decide) (ift (by decide) (ift rfl (ift q rfl))))
      · exact key 0 (ift rfl (bnd rfl (ifn q rfl))) (ifn (by decide) (ift (by decide) (ift rfl (ifn q rfl))))
    | 1, _ =>
      by_cases q : o = true
      · exact key 1 (ifn (by decide) (ift rfl (bnd rfl (ift (ho.trans q) rfl)))) (ifn (by decide) (ift (by decide) (ifn (by decide) (ift rfl (ift q rfl)))))
      · exact key 0 (ifn (by decide) (ift rfl (bnd rfl (ifn (fun z => q (ho.symm.trans z)) rfl)))) (ifn (by decide) (ift (by decide) (ifn (by decide) (ift rfl (ifn q rfl)))))
    | 2, _ => exact key _ (ifn (by decide) (ifn (by decide) (ift rfl (bnd rfl rfl)))) (ifn (by decide) (ift (by decide) (ifn (by decide) (ifn (by decide) (ift rfl rfl)))))
    | 3, _ => exact key _ (ifn (by decide) (ifn (by decide) (ifn (by decide) (ift rfl (bnd rfl rfl))))) (ifn (by decide) (ift (by decide) (ifn (by decide) (ifn (by decide) (ifn (by decide) (ift rfl rfl))))))
    | 4, _ => exact key _ (ifn (by decide) (ifn (by decide) (ifn (by decide) (ifn (by decide) (ift rfl (bnd rfl rfl)))))) (ifn (by decide) (ift (by decide) (ifn (by decide) (ifn (by decide) (ifn (by decide) (ifn (by decide) (ift rfl rfl)))))))
    | 5, _ => exact key _ (ifn (by decide) (ifn (by decide) (ifn (by decide) (ifn (by decide) (ifn (by decide) (ift rfl (bnd rfl rfl))))))) (ifn (by decide) (ift (by decide) (ifn (by decide) (ifn (by decide) (ifn (by decide) (ifn (by decide) (ifn (by decide) (ift rfl rfl))))))))
    | 6, _ => exact key _ (ifn (by decide) (ifn (by decide) (ifn (by decide) (ifn (by decide) (ifn (by decide) (ifn (by decide) (ift rfl (bnd rfl rfl)))))))) (ifn (by decide) (ift (by decide) (ifn (by decide) (ifn (by decide) (ifn (by decide) (ifn (by decide) (ifn (by decide) (ifn (by decide) rfl))))))))
    | j + 7, hj => omega
/-- the power limited -/
def sLim (d : DT) (a b : Int32) : DT := (d.1, d.2.1, d.2.2.1, d.2.2.2.1, d.2.2.2.2.1, d.2.2.2.2.2.1, a, b, d.2.2.2.2.2.2.2.2.1, d.2.2.2.2.2.2.2.2.2.1, d.2.2.2.2.2.2.2.2.2.2.1, d.2.2.2.2.2.2.2.2.2.2.2)
theorem power_g (hL : L < 2 ^ 31) (hi : i + 5 ≤ L) (hI : ∀ th', Inv (t + 1) vL d vC (mkM d v ic ch n o us co la th')) (hI2 : ∀ a b, 0 ≤ b → Inv (t + 1) vL (sLim d a b) vC (mkM (sLim d a b) v ic ch n o us co la 0)) : ∃ u, fc_power N L xs vL d vC (mkM d v ic ch n o us co la th) vO (nI i) = some u ∧ Inv (t + 1) u.1 u.2.1 u.2.2.1 u.2.2.2.1 := by
  have hg : gI (nI i + (1 : Int32)) L = true := gk (k := 1) rfl (by omega) hL
  have hg2 : gI (nI i + (2 : Int32)) L = true := gk (k := 2) rfl (by omega) hL
  unfold fc_power
  generalize xs (nI i + (1 : Int32)).toNatClampNeg = a
  generalize xs (nI i + (2 : Int32)).toNatClampNeg = b
  by_cases q1 : a < 0
  · have h1 : f_Law_power d vO a b = some ((1 : Int32), d, vO) := gHe (ift q1 rfl) (ift rfl rfl)
    have h2 : f_Mod_power (mkM d v ic ch n o us co la th) a b = some ((0 : Int32), mkM d v ic ch n o us co la 1) := ift q1 rfl
    exact ⟨_, ift hg (ift hg2 (bnd h1 (ift hg (ift hg2 (bnd h2 (bnd rfl (eT rfl n1))))))), hI 1⟩
  · by_cases q2 : (5000 : Int32) < a
    · have h1 : f_Law_power d vO a b = some ((1 : Int32), d, vO) := gHe (ifn q1 (ift q2 rfl)) (ift rfl rfl)
      have h2 : f_Mod_power (mkM d v ic ch n o us co la th) a b = some ((0 : Int32), mkM d v ic ch n o us co la 1) := ifn q1 (ift q2 rfl)
      exact ⟨_, ift hg (ift hg2 (bnd h1 (ift hg (ift hg2 (bnd h2 (bnd rfl (eT rfl n1))))))), hI 1⟩
    · by_cases q3 : b < 0
      · have h1 : f_Law_power d vO a b = some ((1 : Int32), d, vO) := gHe (ifn q1 (ifn q2 (ift q3 rfl))) (ift rfl rfl)
        have h2 : f_Mod_power (mkM d v ic ch n o us co la th) a b = some ((0 : Int32), mkM d v ic ch n o us co la 1) := ifn q1 (ifn q2 (ift q3 rfl))
        exact ⟨_, ift hg (ift hg2 (bnd h1 (ift hg (ift hg2 (bnd h2 (bnd rfl (eT rfl n1))))))), hI 1⟩
      · by_cases q4 : b ≤ (5000 : Int32)
        · have h1 : f_Law_power d vO a b = some ((0 : Int32), sLim d a b, vp_updL vO (0 : Int32).toNatClampNeg d.2.2.2.2.2.2.1.toInt64) := gHo (ifn q1 (ifn q2 (ifn q3 (ift q4 (bnd rfl rfl))))) (ift g01 rfl)
          have h2 : f_Mod_power (mkM d v ic ch n o us co la th) a b = some (d.2.2.2.2.2.2.1, mkM (sLim d a b) v ic ch n o us co la 0) := ifn q1 (ifn q2 (ifn q3 (ift q4 rfl)))
          exact ⟨_, ift hg (ift hg2 (bnd h1 (ift hg (ift hg2 (bnd h2 (bnd rfl (eO rfl rfl (vO0 vO _)))))))), hI2 a b (Int32.not_lt.mp q3)⟩
        · have h1 : f_Law_power d vO a b = some ((1 : Int32), d, vO) := gHe (ifn q1 (ifn q2 (ifn q3 (ifn q4 rfl)))) (ift rfl rfl)
          have h2 : f_Mod_power (mkM d v ic ch n o us co la th) a b = some ((0 : Int32), mkM d v ic ch n o us co la 1) := ifn q1 (ifn q2 (ifn q3 (ifn q4 rfl)))
          exact ⟨_, ift hg (ift hg2 (bnd h1 (ift hg (ift hg2 (bnd h2 (bnd rfl (eT rfl n1))))))), hI 1⟩
theorem On_lim (A : On t d g own ch ps p o w gn lan cs) {a b : Int32} (hb : 0 ≤ b) : On t (sLim d a b) g own ch ps p o w gn lan cs := by
  obtain ⟨B1, B2, ⟨c1, c2, c3, c4⟩, B3⟩ := A
  exact ⟨B1, B2, ⟨⟨c1.1, c1.2.1, hb⟩, c2, c3, c4⟩, B3⟩
theorem Off_lim (A : Off t d g own) {a b : Int32} (hb : 0 ≤ b) : Off t (sLim d a b) g own := by
  obtain ⟨B1, ⟨c1, c2, c3, c4⟩⟩ := A
  exact ⟨B1, ⟨c1.1, c1.2.1, hb⟩, c2, c3, c4⟩
theorem cut_off (hL : L < 2 ^ 31) (hi : i + 5 ≤ L) (A : Off t d g own) : ∃ u, fc_cut N L xs vL d (mkC g own [] p false) (sX d g ch us co la th) vO (nI i) = some u ∧ Inv (t + 1) u.1 u.2.1 u.2.2.1 u.2.2.2.1 := by
  have hg : gI (nI i + (1 : Int32)) L = true := gk (k := 1) rfl (by omega) hL
  unfold fc_cut
  generalize xs (nI i + (1 : Int32)).toNatClampNeg = a
  have h1 : f_Law_cut N d (mkC g own [] p false) vO a = some ((1 : Int32), d, mkC g own [] p false, vO) := gHe (gEe (nP_off A.off)) (ift rfl rfl)
  have h2 : f_Mod_cut N (sX d g ch us co la th) a = some ((0 : Int32), sX d g ch us co la 1) := ifn (by show ¬ d.2.2.2.2.2.1 = true; rw [A.off]; decide) rfl
  exact ⟨_, ift hg (bnd h1 (ift hg (bnd h2 (bnd rfl (eT rfl n1))))), kOff A⟩
theorem cut_on (hN : 2000 < N) (hL : L < 2 ^ 31) (hi : i + 5 ≤ L) (A : On t d g own ch ps p o w gn lan cs) : ∃ u, fc_cut N L xs (sL cs lan) d (mkC g own ps p o) (sM d g ch ps o cs lan th) vO (nI i) = some u ∧ Inv (t + 1) u.1 u.2.1 u.2.2.1 u.2.2.2.1 := by
  have hg : gI (nI i + (1 : Int32)) L = true := gk (k := 1) rfl (by omega) hL
  unfold fc_cut
  generalize xs (nI i + (1 : Int32)).toNatClampNeg = a
  have hw := A.w160
  by_cases q : 0 ≤ a
  · have hd := A.2.2.1
    have h1 : f_Law_cut N d (mkC g own ps p o) vO a = some ((0 : Int32), sOff d a, mkC g own [] p false, vp_updL vO (0 : Int32).toNatClampNeg d.2.2.2.2.1.toInt64) := gHo (gEo (nP_on A.on) (ift q (bnd rfl (bnd (off_c d hd.1 (by omega) (by omega) q) (bnd (drop_c A.1.2.1 A.1.2.2.1 (by omega)) rfl))))) (ift g01 rfl)
    have h3 := off_m (N := N) d g (chgd ps) ch (nI ps.length) o (nI (lsz cs)) (nI cs.length) (lN lan) 0 hd.1 (by omega) (by omega) q
    rw [icz_nil A.1.2.1] at h3
    have h2 : f_Mod_cut N (sM d g ch ps o cs lan th) a = some (d.2.2.2.2.1, sX (sOff d a) g ch (nI (lsz cs)) (nI cs.length) (lN lan) 0) := ift A.on (ift q (bnd h3 rfl))
    exact ⟨_, ift hg (bnd h1 (ift hg (bnd h2 (bnd rfl (eO rfl rfl (vO0 vO _)))))), kOff ⟨A.hi, off_of hd (by omega) q⟩⟩
  · have h1 : f_Law_cut N d (mkC g own ps p o) vO a = some ((2 : Int32), d, mkC g own ps p o, vO) := gHe (gEo (nP_on A.on) (ifn q rfl)) (ifn (by decide) (ift rfl rfl))
    have h2 : f_Mod_cut N (sM d g ch ps o cs lan th) a = some ((0 : Int32), sM d g ch ps o cs lan 2) := ift A.on (ifn q rfl)
    exact ⟨_, ift hg (bnd h1 (ift hg (bnd h2 (bnd rfl (eT rfl n2))))), kOn A⟩
end
