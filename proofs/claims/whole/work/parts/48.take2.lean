/-! PURE SIDE 9: take, whole -/
theorem le96 {l k : Nat} (hl : l ≤ 96) (hk : k ≤ 2) : (nI l + nI k ≤ (96 : Int32)) ↔ l + k ≤ 96 := by
  rw [nI_add]
  exact nI_leI (b := 96) (by omega) (by omega)
theorem k00 : (0 : Int32) + (0 : Int32) = nI 0 := by decide
theorem k01 : (0 : Int32) + (1 : Int32) = nI 1 := by decide
theorem k10 : (1 : Int32) + (0 : Int32) = nI 1 := by decide
theorem k11 : (1 : Int32) + (1 : Int32) = nI 2 := by decide
theorem nI_m1 {k : Nat} (h : k < 2 ^ 31) : ¬ nI k = (-1 : Int32) := fun q => nI_pos h (by rw [q]; decide)
section
variable {N : Nat} {d : DT} {g own : Nat → Int64} {ps : List Nat} {p : Nat → Int32} {ch : Nat → Int64} {us co : Int32} {la : Int64} {th : Int32}
/-- the reference, at a block that is taken whole -/
theorem tkt_whole {m n k : Nat} (H : TS g own ch ps p) (hk : 176 ≤ k) (hn : k + 1 + n ≤ 1024) (e : own k = hd n false) (hs : n < m + 2) (hm : m ≤ 847) : tkt (mkM d g (chgd ps) ch (nI ps.length) true us co la th) (nI m) (nI k) = if ps.length + moreN own ps k (hd n true) ≤ 96 then (f_Mod_become (mkM d g (chgd ps) ch (nI ps.length) true us co la th) (nI k) (hd n true)).bind fun x => some (nI k + 1, x) else some (-1, mkM d g (chgd ps) ch (nI ps.length) true us co la th) := by
  have hl := H.2.1.2.2
  obtain ⟨⟨H1, H2, H3⟩, -⟩ := H
  have hmo := moreN_le own ps k (hd n true)
  unfold tkt
  refine bnd (sizeAt_m H1 H2 H3 (by omega) (by omega) e) (ift (show nI n < nI m + 2 from by rw [show (2 : Int32) = nI 2 from rfl, nI_add]; exact nI_lt hs (by omega)) ?_)
  rw [hd_t (by omega)]
  refine bnd (isMore_m (by omega) H1) ?_
  by_cases h1 : moreN own ps k (hd n true) = 1
  · refine ift (by simpa using h1) ?_
    show (if nI ps.length + ((0 : Int32) + (1 : Int32)) ≤ (96 : Int32) then _ else _) = _
    rw [k01, h1]
    by_cases hf : ps.length + 1 ≤ 96
    · rw [if_pos ((le96 hl (by omega)).mpr hf), if_pos hf]
    · rw [if_neg (fun q => hf ((le96 hl (by omega)).mp q)), if_neg hf]
  · refine ifn (by simpa using h1) ?_
    show (if nI ps.length + ((0 : Int32) + (0 : Int32)) ≤ (96 : Int32) then _ else _) = _
    rw [k00, show moreN own ps k (hd n true) = 0 by omega, if_pos ((le96 hl (by omega)).mpr (by omega)), if_pos (by omega)]
/-- the reference, at a block that is split -/
theorem tkt_split {m n k : Nat} (H : TS g own ch ps p) (hk : 176 ≤ k) (hn : k + 1 + n ≤ 1024) (e : own k = hd n false) (hs : m + 2 ≤ n) (hm : m ≤ 847) : tkt (mkM d g (chgd ps) ch (nI ps.length) true us co la th) (nI m) (nI k) = if ps.length + (moreN own ps (k + 1 + m) (hd (n - m - 1) false) + moreN own ps k (hd m true)) ≤ 96 then (f_Mod_become (mkM d g (chgd ps) ch (nI ps.length) true us co la th) (nI (k + 1 + m)) (hd (n - m - 1) false)).bind fun x => (f_Mod_become x (nI k) (hd m true)).bind fun z => some (nI k + 1, z) else some (-1, mkM d g (chgd ps) ch (nI ps.length) true us co la th) := by
  have hl := H.2.1.2.2
  obtain ⟨⟨H1, H2, H3⟩, -⟩ := H
  have m1 := moreN_le own ps (k + 1 + m) (hd (n - m - 1) false)
  have m2 := moreN_le own ps k (hd m true)
  have er : nI k + 1 + nI m = nI (k + 1 + m) := by rw [nI_1, nI_add]
  have es : nI n - nI m - 1 = nI (n - m - 1) := by rw [pk_sub (by omega), show (1 : Int32) = nI 1 from rfl, pk_sub (by omega)]
  unfold tkt
  refine bnd (sizeAt_m H1 H2 H3 (by omega) (by omega) e) (ifn (show ¬ nI n < nI m + 2 from by rw [show (2 : Int32) = nI 2 from rfl, nI_add]; exact nI_nlt hs (by omega)) ?_)
  rw [er, es, hd_f (by omega), hd_t (by omega)]
  refine bnd (isMore_m (by omega) H1) ?_
  by_cases h1 : moreN own ps (k + 1 + m) (hd (n - m - 1) false) = 1
  · refine ift (by simpa using h1) (bnd (isMore_m (by omega) H1) ?_)
    by_cases h2 : moreN own ps k (hd m true) = 1
    · refine ift (by simpa using h2) ?_
      show (if nI ps.length + ((1 : Int32) + (1 : Int32)) ≤ (96 : Int32) then _ else _) = _
      rw [k11, h1, h2]
      by_cases hf : ps.length + 2 ≤ 96
      · rw [if_pos ((le96 hl (by omega)).mpr hf), if_pos hf]
      · rw [if_neg (fun q => hf ((le96 hl (by omega)).mp q)), if_neg hf]
    · refine ifn (by simpa using h2) ?_
      show (if nI ps.length + ((1 : Int32) + (0 : Int32)) ≤ (96 : Int32) then _ else _) = _
      rw [k10, h1, show moreN own ps k (hd m true) = 0 by omega]
      by_cases hf : ps.length + 1 ≤ 96
      · rw [if_pos ((le96 hl (by omega)).mpr hf), if_pos hf]
      · rw [if_neg (fun q => hf ((le96 hl (by omega)).mp q)), if_neg hf]
  · refine ifn (by simpa using h1) (bnd (isMore_m (by omega) H1) ?_)
    by_cases h2 : moreN own ps k (hd m true) = 1
    · refine ift (by simpa using h2) ?_
      show (if nI ps.length + ((0 : Int32) + (1 : Int32)) ≤ (96 : Int32) then _ else _) = _
      rw [k01, h2, show moreN own ps (k + 1 + m) (hd (n - m - 1) false) = 0 by omega]
      by_cases hf : ps.length + 1 ≤ 96
      · rw [if_pos ((le96 hl (by omega)).mpr hf), if_pos hf]
      · rw [if_neg (fun q => hf ((le96 hl (by omega)).mp q)), if_neg hf]
    · refine ifn (by simpa using h2) ?_
      show (if nI ps.length + ((0 : Int32) + (0 : Int32)) ≤ (96 : Int32) then _ else _) = _
      rw [k00, show moreN own ps (k + 1 + m) (hd (n - m - 1) false) = 0 by omega, show moreN own ps k (hd m true) = 0 by omega, if_pos ((le96 hl (by omega)).mpr (by omega)), if_pos (by omega)]
/-- TAKE: both sides answer alike, and the heap is a chain then too -/
theorem take_both {m : Nat} {bs : List (Nat × Bool)} (H : TS g own ch ps p) (h1m : 1 ≤ m) (hm : m ≤ 847) (hN : 2000 < N) (hC : Seg own 176 bs 1024) : (f_Blk_takeFirst N (mkC g own ps p true) (nI m) = some (-1, mkC g own ps p true) ∧ f_Mod_take_45 N N (mkM d g (chgd ps) ch (nI ps.length) true us co la th) (nI m) (176 : Int32) = some (-1, mkM d g (chgd ps) ch (nI ps.length) true us co la th)) ∨ ∃ k own' ps' p' ch' bs', f_Blk_takeFirst N (mkC g own ps p true) (nI m) = some (nI (k + 1), mkC g own' ps' p' true) ∧ f_Mod_take_45 N N (mkM d g (chgd ps) ch (nI ps.length) true us co la th) (nI m) (176 : Int32) = some (nI (k + 1), mkM d g (chgd ps') ch' (nI ps'.length) true us co la th) ∧ TS g own' ch' ps' p' ∧ Seg own' 176 bs' 1024 := by
  have hl := H.2.1.2.2
  rcases ff_both (N := N) (p := p) (d := d) (us := us) (co := co) (la := la) (th := th) (cn := nI ps.length) H.1 h1m hm bs 176 N hC (Nat.le_refl _) (by omega) with ⟨A, n, B, k, q1, q2, q3, q4, q5, q6, q7, q8, q9, q10⟩ | ⟨q1, q2⟩
  · have q10' : f_Mod_take_45 N N (mkM d g (chgd ps) ch (nI ps.length) true us co la th) (nI m) (176 : Int32) = _ := q10
    rw [q10']
    have start : ∀ {r}, (if nI n < nI m + 2 then (f_Chg_change N (mkC g own ps p true) (nI k) (((2 : Int64) * (nI n).toInt64) + (1 : Int64))).bind fun x7 => if x7.1 = true then some (nI k + (1 : Int32), x7.2) else some ((-1 : Int32), x7.2) else (f_Blk_split N (mkC g own ps p true) (nI k) (nI m) (nI n)).bind fun x10 => if x10.1 = true then some (nI k + (1 : Int32), x10.2) else some ((-1 : Int32), x10.2)) = r → f_Blk_takeFirst N (mkC g own ps p true) (nI m) = r := by
      intro r h
      unfold f_Blk_takeFirst f_Blk_firstFree
      exact bnd q9 (ifn (nI_m1 (by omega)) (bnd (sizeAt_c q3 q4 q5 q6) h))
    by_cases hs : n < m + 2
    · have hcnd : nI n < nI m + 2 := by rw [show (2 : Int32) = nI 2 from rfl, nI_add]; exact nI_lt hs (by omega)
      rw [tkt_whole H q3 q5 q6 hs hm]
      by_cases hf : ps.length + moreN own ps k (hd n true) ≤ 96
      · obtain ⟨p', ch', a1, a2, -, a4⟩ := chg_both (N := N) (d := d) (us := us) (co := co) (la := la) (th := th) H (show k < 1024 by omega) (Or.inr q3) (by omega) hf
        refine Or.inr ⟨k, _, _, p', ch', A ++ (n, true) :: B, start (ift hcnd ?_), ?_, a4, ?_⟩
        · rw [hd_t (by omega)]
          refine bnd a1 (ift rfl ?_)
          rw [nI_1]
        · refine ift hf (bnd a2 ?_)
          rw [nI_1]
        · refine Seg_app.mpr ⟨k, Seg_congr q2 (fun j h1 h2 => pk_uLn (by omega)), q4, pk_uLs, Seg_congr q7 (fun j h1 h2 => pk_uLn (by omega))⟩
      · refine Or.inl ⟨start (ift hcnd ?_), ifn hf rfl⟩
        rw [hd_t (by omega)]
        exact bnd (change_no (by omega) hl hf) (ifn Bool.false_ne_true rfl)
    · have hcnd : ¬ nI n < nI m + 2 := by rw [show (2 : Int32) = nI 2 from rfl, nI_add]; exact nI_nlt (by omega) (by omega)
      rw [tkt_split H q3 q5 q6 (by omega) hm]
      have er : nI k + 1 + nI m = nI (k + 1 + m) := by rw [nI_1, nI_add]
      have es : nI n - nI m - 1 = nI (n - m - 1) := by rw [pk_sub (by omega), show (1 : Int32) = nI 1 from rfl, pk_sub (by omega)]
      have m1 := moreN_le own ps (k + 1 + m) (hd (n - m - 1) false)
      have m2 := moreN_le own ps k (hd m true)
      have split : ∀ {r}, (if decide (ps.length + (moreN own ps (k + 1 + m) (hd (n - m - 1) false) + moreN own ps k (hd m true)) ≤ 96) = true then (f_Chg_change N (mkC g own ps p true) (nI (k + 1 + m)) (hd (n - m - 1) false)).bind fun x8 => if x8.1 = true then (f_Chg_change N x8.2 (nI k) (hd m true)).bind fun x11 => if x11.1 = true then some (true, x11.2) else some (false, x11.2) else some (false, x8.2) else some (false, mkC g own ps p true)) = r → f_Blk_split N (mkC g own ps p true) (nI k) (nI m) (nI n) = r := by
        intro r h
        unfold f_Blk_split
        rw [er, es, hd_f (by omega), hd_t (by omega)]
        refine bnd (cost_c (by omega)) (bnd (cost_c (by omega)) ?_)
        rw [nI_add]
        exact bnd (room_c hl (by omega)) h
      by_cases hf : ps.length + (moreN own ps (k + 1 + m) (hd (n - m - 1) false) + moreN own ps k (hd m true)) ≤ 96
      · obtain ⟨p1, ch1, a1, a2, -, a4⟩ := chg_both (N := N) (d := d) (us := us) (co := co) (la := la) (th := th) (x := hd (n - m - 1) false) H (show k + 1 + m < 1024 by omega) (Or.inr (by omega)) (by omega) (by omega)
        obtain ⟨p2, ch2, b1, b2, -, b4⟩ := chg_both (N := N) (d := d) (us := us) (co := co) (la := la) (th := th) (x := hd m true) a4 (show k < 1024 by omega) (Or.inr q3) (by omega) (by rw [moreN_other (by omega), psN_len]; omega)
        refine Or.inr ⟨k, _, _, p2, ch2, A ++ (m, true) :: (n - m - 1, false) :: B, start (ifn hcnd (bnd (split (ift (by simpa using hf) (bnd a1 (ift rfl (bnd b1 (ift rfl rfl)))))) (ift rfl ?_))), ?_, b4, ?_⟩
        · rw [nI_1]
        · refine ift hf (bnd a2 (bnd b2 ?_))
          rw [nI_1]
        · refine Seg_app.mpr ⟨k, Seg_congr q2 (fun j h1 h2 => by rw [pk_uLn (by omega), pk_uLn (by omega)]), h1m, pk_uLs, by omega, ?_, ?_⟩
          · rw [pk_uLn (by omega), pk_uLs]
          · rw [show k + 1 + m + 1 + (n - m - 1) = k + 1 + n by omega]
            exact Seg_congr q7 (fun j h1 h2 => by rw [pk_uLn (by omega), pk_uLn (by omega)])
      · exact Or.inl ⟨start (ifn hcnd (bnd (split (ifn (by simpa using hf) rfl)) (ifn Bool.false_ne_true rfl))), ifn hf rfl⟩
  · refine Or.inl ⟨?_, q2⟩
    unfold f_Blk_takeFirst f_Blk_firstFree
    exact bnd q1 (ift rfl rfl)
end
