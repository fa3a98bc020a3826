/-! PURE SIDE 7: the walks along the blocks, on both sides -/
/-- the reference's take, at the block that it found -/
def tkt (vM : MT) (y1 y2 : Int32) : Option (Int32 × MT) := (f_Mod_sizeAt vM y2).bind fun x53 => if x53 < (y1 + (2 : Int32)) then (f_Mod_isMore vM y2 (((2 : Int64) * x53.toInt64) + (1 : Int64))).bind fun x56 => if x56 = true then if (vM.2.2.2.2.2.2.2.2.1 + ((0 : Int32) + (1 : Int32))) ≤ (96 : Int32) then (f_Mod_become vM y2 (((2 : Int64) * x53.toInt64) + (1 : Int64))).bind fun x63 => some (y2 + (1 : Int32), x63) else some ((-1 : Int32), vM) else if (vM.2.2.2.2.2.2.2.2.1 + ((0 : Int32) + (0 : Int32))) ≤ (96 : Int32) then (f_Mod_become vM y2 (((2 : Int64) * x53.toInt64) + (1 : Int64))).bind fun x60 => some (y2 + (1 : Int32), x60) else some ((-1 : Int32), vM) else (f_Mod_isMore vM ((y2 + (1 : Int32)) + y1) ((2 : Int64) * (((x53 - y1) - (1 : Int32)).toInt64))).bind fun x65 => if x65 = true then (f_Mod_isMore vM y2 (((2 : Int64) * y1.toInt64) + (1 : Int64))).bind fun x81 => if x81 = true then if (vM.2.2.2.2.2.2.2.2.1 + ((1 : Int32) + (1 : Int32))) ≤ (96 : Int32) then (f_Mod_become vM ((y2 + (1 : Int32)) + y1) ((2 : Int64) * (((x53 - y1) - (1 : Int32)).toInt64))).bind fun x90 => (f_Mod_become x90 y2 (((2 : Int64) * y1.toInt64) + (1 : Int64))).bind fun x92 => some (y2 + (1 : Int32), x92) else some ((-1 : Int32), vM) else if (vM.2.2.2.2.2.2.2.2.1 + ((1 : Int32) + (0 : Int32))) ≤ (96 : Int32) then (f_Mod_become vM ((y2 + (1 : Int32)) + y1) ((2 : Int64) * (((x53 - y1) - (1 : Int32)).toInt64))).bind fun x85 => (f_Mod_become x85 y2 (((2 : Int64) * y1.toInt64) + (1 : Int64))).bind fun x87 => some (y2 + (1 : Int32), x87) else some ((-1 : Int32), vM) else (f_Mod_isMore vM y2 (((2 : Int64) * y1.toInt64) + (1 : Int64))).bind fun x68 => if x68 = true then if (vM.2.2.2.2.2.2.2.2.1 + ((0 : Int32) + (1 : Int32))) ≤ (96 : Int32) then (f_Mod_become vM ((y2 + (1 : Int32)) + y1) ((2 : Int64) * (((x53 - y1) - (1 : Int32)).toInt64))).bind fun x77 => (f_Mod_become x77 y2 (((2 : Int64) * y1.toInt64) + (1 : Int64))).bind fun x79 => some (y2 + (1 : Int32), x79) else some ((-1 : Int32), vM) else if (vM.2.2.2.2.2.2.2.2.1 + ((0 : Int32) + (0 : Int32))) ≤ (96 : Int32) then (f_Mod_become vM ((y2 + (1 : Int32)) + y1) ((2 : Int64) * (((x53 - y1) - (1 : Int32)).toInt64))).bind fun x72 => (f_Mod_become x72 y2 (((2 : Int64) * y1.toInt64) + (1 : Int64))).bind fun x74 => some (y2 + (1 : Int32), x74) else some ((-1 : Int32), vM)
/-- the reference's give, with the block before found -/
def gvt (vM : MT) (y2 y3 y5 : Int32) : Option (Int32 × MT) := if y5 < 0 then (f_Mod_tryOne vM y2 ((2 : Int64) * y3.toInt64)).bind fun x3 => if x3.1 = true then some (y3, x3.2) else some ((-1 : Int32), x3.2) else (f_Mod_isUsedAt vM y5).bind fun x6 => if x6 = true then (f_Mod_tryOne vM y2 ((2 : Int64) * y3.toInt64)).bind fun x9 => if x9.1 = true then some (y3, x9.2) else some ((-1 : Int32), x9.2) else (f_Mod_sizeAt vM y5).bind fun x12 => (f_Mod_tryOne vM y5 ((2 : Int64) * ((y3 + (x12 + (1 : Int32))).toInt64))).bind fun x14 => if x14.1 = true then some (y3 + (x12 + (1 : Int32)), x14.2) else some ((-1 : Int32), x14.2)
/-- both sides read the same words -/
def HS (g own ch : Nat → Int64) (ps : List Nat) (o : Bool) : Prop := ownok g own ps ∧ chok own ch ps ∧ (o = false → ps = [])
theorem Seg_hd {v : Nat → Int64} {h n : Nat} {u : Bool} {bs : List (Nat × Bool)} (e : Seg v h ((n, u) :: bs) 1024) : 1 ≤ n ∧ v h = hd n u ∧ h + 1 + n ≤ 1024 ∧ Seg v (h + 1 + n) bs 1024 := ⟨e.1, e.2.1, Seg_le e.2.2, e.2.2⟩
theorem nI_s1 (h n : Nat) : nI h + ((1 : Int32) + nI n) = nI (h + 1 + n) := by
  rw [show (1 : Int32) = nI 1 from rfl, nI_add, nI_add]
  congr 1
  omega
theorem nI_s2 (h n : Nat) : nI h + (nI n + (1 : Int32)) = nI (h + 1 + n) := by
  rw [nI_1, nI_add]
  congr 1
  omega
theorem top_le {h : Nat} (hh : h < 1024) : ¬ (1024 : Int32) ≤ nI h := nI_ge (b := 1024) hh (by omega)
theorem top_ge : (1024 : Int32) ≤ nI 1024 := nI_le (a := 1024) (Nat.le_refl _) (by omega)
section
variable {N : Nat} {d : DT} {g own : Nat → Int64} {ps : List Nat} {p : Nat → Int32} {ch : Nat → Int64} {o : Bool} {us co : Int32} {la : Int64} {th : Int32} {cn : Int32}
/-- a used block with this address, or none: both sides say so -/
theorem used_both (H : HS g own ch ps o) (a : Int32) : ∀ (bs : List (Nat × Bool)) (h f : Nat), Seg own h bs 1024 → 176 ≤ h → 1024 < h + f → (∃ k n, 176 ≤ k ∧ 1 ≤ n ∧ k + 1 + n ≤ 1024 ∧ own k = hd n true ∧ a = nI (k + 1) ∧ (∃ A B, bs = A ++ (n, true) :: B ∧ Seg own h A k ∧ Seg own (k + 1 + n) B 1024) ∧ f_Blk_isUsedAddress_4 N (mkC g own ps p o) f a (nI h) = some true ∧ f_Mod_usedHead_4 N (mkM d g (chgd ps) ch cn o us co la th) f a (nI h) = some (nI k)) ∨ (f_Blk_isUsedAddress_4 N (mkC g own ps p o) f a (nI h) = some false ∧ f_Mod_usedHead_4 N (mkM d g (chgd ps) ch cn o us co la th) f a (nI h) = some (-1)) := by
  obtain ⟨H1, H2, H3⟩ := H
  -- where the address lies below, the reference finds nothing
  have low : ∀ (bs : List (Nat × Bool)) (h f : Nat), Seg own h bs 1024 → 176 ≤ h → 1024 < h + f → a ≤ nI h → f_Mod_usedHead_4 N (mkM d g (chgd ps) ch cn o us co la th) f a (nI h) = some (-1) := by
    intro bs
    induction bs with
    | nil =>
      intro h f e hh hf hl
      have : h = 1024 := e
      subst this
      cases f with
      | zero => omega
      | succ f =>
        unfold f_Mod_usedHead_4
        exact ift top_ge (ift top_ge rfl)
    | cons b bs ih =>
      obtain ⟨n, u⟩ := b
      intro h f e hh hf hl
      obtain ⟨e1, e2, e3, e4⟩ := Seg_hd e
      cases f with
      | zero => omega
      | succ f =>
        unfold f_Mod_usedHead_4
        have hne : ¬ nI h + 1 = a := by
          intro q
          rw [← q, nI_1, nI_leI (by omega) (by omega)] at hl
          omega
        refine ifn (top_le (by omega)) (ifn hne (bnd (sizeAt_m H1 H2 H3 (by omega) (by omega) e2) ?_))
        rw [nI_s2]
        exact ih (h + 1 + n) f e4 (by omega) (by omega) (Int32.le_trans hl (nI_le (by omega) (by omega)))
  intro bs
  induction bs with
  | nil =>
    intro h f e hh hf
    have : h = 1024 := e
    subst this
    cases f with
    | zero => omega
    | succ f =>
      refine Or.inr ⟨?_, ?_⟩
      · unfold f_Blk_isUsedAddress_4
        exact ift top_ge rfl
      · unfold f_Mod_usedHead_4
        exact ift top_ge (ift top_ge rfl)
  | cons b bs ih =>
    obtain ⟨n, u⟩ := b
    intro h f e hh hf
    obtain ⟨e1, e2, e3, e4⟩ := Seg_hd e
    cases f with
    | zero => omega
    | succ f =>
      by_cases hl : a ≤ nI h
      · refine Or.inr ⟨?_, low _ h (f + 1) e hh hf hl⟩
        unfold f_Blk_isUsedAddress_4
        exact ifn (top_le (by omega)) (ift hl rfl)
      · by_cases he : nI h + 1 = a
        · cases u with
          | true =>
            refine Or.inl ⟨h, n, hh, e1, e3, e2, by rw [← he, nI_1], ⟨[], bs, rfl, rfl, e4⟩, ?_, ?_⟩
            · unfold f_Blk_isUsedAddress_4
              exact ifn (top_le (by omega)) (ifn hl (ift he (bnd (isUsed_c (by omega) (by omega) e2) rfl)))
            · unfold f_Mod_usedHead_4
              exact ifn (top_le (by omega)) (ift he (ifn (top_le (by omega)) (bnd (isUsedAt_m H1 H2 H3 (by omega) (by omega) e2) (ift rfl rfl))))
          | false =>
            refine Or.inr ⟨?_, ?_⟩
            · unfold f_Blk_isUsedAddress_4
              exact ifn (top_le (by omega)) (ifn hl (ift he (bnd (isUsed_c (by omega) (by omega) e2) rfl)))
            · unfold f_Mod_usedHead_4
              exact ifn (top_le (by omega)) (ift he (ifn (top_le (by omega)) (bnd (isUsedAt_m H1 H2 H3 (by omega) (by omega) e2) (ifn (by decide) rfl))))
        · have c1 : f_Blk_isUsedAddress_4 N (mkC g own ps p o) (f + 1) a (nI h) = f_Blk_isUsedAddress_4 N (mkC g own ps p o) f a (nI (h + 1 + n)) := by
            conv => lhs; unfold f_Blk_isUsedAddress_4
            refine ifn (top_le (by omega)) (ifn hl (ifn he (bnd (sizeAt_c hh e1 e3 e2) ?_)))
            rw [nI_s1]
          have m1 : f_Mod_usedHead_4 N (mkM d g (chgd ps) ch cn o us co la th) (f + 1) a (nI h) = f_Mod_usedHead_4 N (mkM d g (chgd ps) ch cn o us co la th) f a (nI (h + 1 + n)) := by
            conv => lhs; unfold f_Mod_usedHead_4
            refine ifn (top_le (by omega)) (ifn he (bnd (sizeAt_m H1 H2 H3 (by omega) (by omega) e2) ?_))
            rw [nI_s2]
          rw [c1, m1]
          rcases ih (h + 1 + n) f e4 (by omega) (by omega) with ⟨k, n', q1, q2, q3, q4, q5, ⟨A, B, q6, q7, q8⟩, q9⟩ | q
          · exact Or.inl ⟨k, n', q1, q2, q3, q4, q5, ⟨(n, u) :: A, B, by rw [q6]; rfl, ⟨e1, e2, q7⟩, q8⟩, q9⟩
          · exact Or.inr q
/-- the words of blocks that are not used, the greatest of them -/
def sFree : List (Nat × Bool) → Nat
  | [] => 0
  | (n, u) :: bs => (if u then 0 else n) + sFree bs
def sMax : List (Nat × Bool) → Nat → Nat
  | [], m => m
  | (n, u) :: bs, m => sMax bs (if m < (if u then 0 else n) then (if u then 0 else n) else m)
theorem free_c : ∀ (bs : List (Nat × Bool)) (h f a : Nat), Seg own h bs 1024 → 176 ≤ h → 1024 < h + f → f_Blk_freeWords_6 N (mkC g own ps p o) f (nI a) (nI h) = some (nI (a + sFree bs)) := by
  intro bs
  induction bs with
  | nil =>
    intro h f a e hh hf
    have : h = 1024 := e
    subst this
    cases f with
    | zero => omega
    | succ f =>
      unfold f_Blk_freeWords_6
      exact ift top_ge rfl
  | cons b bs ih =>
    obtain ⟨n, u⟩ := b
    intro h f a e hh hf
    obtain ⟨e1, e2, e3, e4⟩ := Seg_hd e
    cases f with
    | zero => omega
    | succ f =>
      unfold f_Blk_freeWords_6
      refine ifn (top_le (by omega)) (bnd (freeAt_c hh e1 e3 e2) (bnd (sizeAt_c hh e1 e3 e2) ?_))
      rw [nI_s1, nI_add, ih (h + 1 + n) f _ e4 (by omega) (by omega)]
      show _ = some (nI (a + ((if u then 0 else n) + sFree bs)))
      rw [Nat.add_assoc]
theorem most_c : ∀ (bs : List (Nat × Bool)) (h f a : Nat), Seg own h bs 1024 → 176 ≤ h → 1024 < h + f → a < 2000 → f_Blk_greatestFree_6 N (mkC g own ps p o) f (nI a) (nI h) = some (nI (sMax bs a)) := by
  intro bs
  induction bs with
  | nil =>
    intro h f a e hh hf ha
    have : h = 1024 := e
    subst this
    cases f with
    | zero => omega
    | succ f =>
      unfold f_Blk_greatestFree_6
      exact ift top_ge rfl
  | cons b bs ih =>
    obtain ⟨n, u⟩ := b
    intro h f a e hh hf ha
    obtain ⟨e1, e2, e3, e4⟩ := Seg_hd e
    have hx : (if u then 0 else n) < 2000 := by cases u <;> simp <;> omega
    cases f with
    | zero => omega
    | succ f =>
      unfold f_Blk_greatestFree_6
      refine ifn (top_le (by omega)) (bnd (freeAt_c hh e1 e3 e2) (bnd (sizeAt_c hh e1 e3 e2) ?_))
      rw [nI_s1]
      unfold sMax
      generalize (if u then 0 else n) = x at hx ⊢
      by_cases hc : a < x
      · rw [if_pos (show nI a < nI x from nI_lt hc (by omega)), if_pos hc]
        exact ih (h + 1 + n) f x e4 (by omega) (by omega) hx
      · rw [if_neg (show ¬ nI a < nI x from nI_nlt (by omega) (by omega)), if_neg hc]
        exact ih (h + 1 + n) f a e4 (by omega) (by omega) ha
theorem many_c : ∀ (bs : List (Nat × Bool)) (h f a : Nat), Seg own h bs 1024 → 176 ≤ h → 1024 < h + f → f_Blk_howMany_6 N (mkC g own ps p o) f (nI a) (nI h) = some (nI (a + bs.length)) := by
  intro bs
  induction bs with
  | nil =>
    intro h f a e hh hf
    have : h = 1024 := e
    subst this
    cases f with
    | zero => omega
    | succ f =>
      unfold f_Blk_howMany_6
      exact ift top_ge rfl
  | cons b bs ih =>
    obtain ⟨n, u⟩ := b
    intro h f a e hh hf
    obtain ⟨e1, e2, e3, e4⟩ := Seg_hd e
    cases f with
    | zero => omega
    | succ f =>
      unfold f_Blk_howMany_6
      refine ifn (top_le (by omega)) (bnd (sizeAt_c hh e1 e3 e2) ?_)
      rw [nI_s1, nI_1, ih (h + 1 + n) f _ e4 (by omega) (by omega)]
      simp only [List.length_cons]
      congr 2
      omega
/-- what the reference tells, its three numbers gathered -/
def tolt (vM : MT) (y1 y2 y3 y4 : Int32) : Option (Int32 × MT) := if y1 = (0 : Int32) then some (y2, vM) else if y1 = (1 : Int32) then some (y3, vM) else if y1 = (2 : Int32) then some (y4, vM) else if y1 = (3 : Int32) then some (vM.2.2.2.2.2.2.2.2.2.2.2.1, vM) else if y1 = (4 : Int32) then some (vM.2.2.2.2.2.2.2.2.2.2.2.2.1, vM) else if y1 = (5 : Int32) then if gI (0 : Int32) 1024 = true then some ((vM.2.1 (0 : Int32).toNatClampNeg).toInt32, vM) else none else if y1 = (6 : Int32) then some (vM.2.2.2.2.2.2.2.2.2.2.2.2.2.1.toInt32, vM) else if vM.2.2.2.2.2.2.2.2.2.2.1 = true then some (vM.2.2.2.2.2.2.2.2.1, vM) else some ((0 : Int32), vM)
theorem told_m (H : HS g own ch ps o) (y1 : Int32) : ∀ (bs : List (Nat × Bool)) (h f a m k : Nat), Seg own h bs 1024 → 176 ≤ h → 1024 < h + f → m < 2000 → f_Mod_told_51 N f (mkM d g (chgd ps) ch cn o us co la th) y1 (nI a) (nI m) (nI k) (nI h) = tolt (mkM d g (chgd ps) ch cn o us co la th) y1 (nI (a + sFree bs)) (nI (sMax bs m)) (nI (k + bs.length)) := by
  obtain ⟨H1, H2, H3⟩ := H
  intro bs
  induction bs with
  | nil =>
    intro h f a m k e hh hf hm
    have : h = 1024 := e
    subst this
    cases f with
    | zero => omega
    | succ f =>
      unfold f_Mod_told_51 tolt
      exact ift top_ge rfl
  | cons b bs ih =>
    obtain ⟨n, u⟩ := b
    intro h f a m k e hh hf hm
    obtain ⟨e1, e2, e3, e4⟩ := Seg_hd e
    cases f with
    | zero => omega
    | succ f =>
      unfold f_Mod_told_51
      refine ifn (top_le (by omega)) (bnd (sizeAt_m H1 H2 H3 (by omega) (by omega) e2) (bnd (isUsedAt_m H1 H2 H3 (by omega) (by omega) e2) ?_))
      have el : k + 1 + bs.length = k + ((n, u) :: bs).length := by simp only [List.length_cons]; omega
      cases u with
      | true =>
        refine ift rfl ?_
        rw [nI_s2, nI_1, ih (h + 1 + n) f a m (k + 1) e4 (by omega) (by omega) hm, el]
        have : sFree ((n, true) :: bs) = sFree bs := by show 0 + sFree bs = _; omega
        rw [this]
        rfl
      | false =>
        refine ifn (by decide) ?_
        have e5 : a + n + sFree bs = a + sFree ((n, false) :: bs) := by show _ = a + (n + sFree bs); omega
        by_cases hc : m < n
        · refine ifn (show ¬ nI n ≤ nI m from nI_ge hc (by omega)) ?_
          rw [nI_s2, nI_1, nI_add, ih (h + 1 + n) f (a + n) n (k + 1) e4 (by omega) (by omega) (by omega), el, e5]
          have : sMax ((n, false) :: bs) m = sMax bs n := by
            show sMax bs (if m < n then n else m) = _
            rw [if_pos hc]
          rw [this]
        · refine ift (show nI n ≤ nI m from nI_le (by omega) (by omega)) ?_
          rw [nI_s2, nI_1, nI_add, ih (h + 1 + n) f (a + n) m (k + 1) e4 (by omega) (by omega) (by omega), el, e5]
          have : sMax ((n, false) :: bs) m = sMax bs m := by
            show sMax bs (if m < n then n else m) = _
            rw [if_neg hc]
          rw [this]
/-- what is told of a block -/
def bans (what : Int32) (h n : Nat) (u : Bool) : Int32 := if what = 0 then nI h + 1 else if what = 1 then nI n else if u = true then 1 else 0
theorem block_both (H : HS g own ch ps o) (what : Int32) {j : Nat} (hj : j < 2 ^ 31) : ∀ (bs : List (Nat × Bool)) (h f k : Nat), Seg own h bs 1024 → 176 ≤ h → 1024 < h + f → k ≤ j → (∃ h' n u, 176 ≤ h' ∧ 1 ≤ n ∧ h' + 1 + n ≤ 1024 ∧ own h' = hd n u ∧ f_Blk_headOf_6 N (mkC g own ps p o) f (nI j) (nI k) (nI h) = some (nI h') ∧ f_Mod_block_45 N f (mkM d g (chgd ps) ch cn o us co la th) (nI j) what (nI h) (nI k) = some (bans what h' n u, mkM d g (chgd ps) ch cn o us co la th)) ∨ (f_Blk_headOf_6 N (mkC g own ps p o) f (nI j) (nI k) (nI h) = some (-1) ∧ f_Mod_block_45 N f (mkM d g (chgd ps) ch cn o us co la th) (nI j) what (nI h) (nI k) = some (-1, mkM d g (chgd ps) ch cn o us co la th)) := by
  obtain ⟨H1, H2, H3⟩ := H
  have hpos : ¬ nI j < 0 := nI_pos hj
  intro bs
  induction bs with
  | nil =>
    intro h f k e hh hf hk
    have : h = 1024 := e
    subst this
    cases f with
    | zero => omega
    | succ f =>
      refine Or.inr ⟨?_, ?_⟩
      · unfold f_Blk_headOf_6
        exact ift top_ge rfl
      · unfold f_Mod_block_45
        exact ift top_ge (ifn hpos (ifn (show ¬ nI 1024 < (1024 : Int32) by decide) rfl))
  | cons b bs ih =>
    obtain ⟨n, u⟩ := b
    intro h f k e hh hf hk
    obtain ⟨e1, e2, e3, e4⟩ := Seg_hd e
    have hlt : nI h < (1024 : Int32) := nI_lt (b := 1024) (by omega) (by omega)
    cases f with
    | zero => omega
    | succ f =>
      by_cases hc : k = j
      · subst hc
        refine Or.inl ⟨h, n, u, hh, e1, e3, e2, ?_, ?_⟩
        · unfold f_Blk_headOf_6
          exact ifn (top_le (by omega)) (ift rfl rfl)
        · unfold f_Mod_block_45 bans
          refine ifn (top_le (by omega)) (ift (nI_le (Nat.le_refl _) (by omega)) (ifn hpos (ift hlt ?_)))
          by_cases w0 : what = 0
          · rw [if_pos w0, if_pos w0]
          · rw [if_neg w0, if_neg w0]
            by_cases w1 : what = 1
            · rw [if_pos w1, if_pos w1]
              exact bnd (sizeAt_m H1 H2 H3 (by omega) (by omega) e2) rfl
            · rw [if_neg w1, if_neg w1]
              refine bnd (isUsedAt_m H1 H2 H3 (by omega) (by omega) e2) ?_
              cases u with
              | true => rfl
              | false => rfl
      · have c1 : f_Blk_headOf_6 N (mkC g own ps p o) (f + 1) (nI j) (nI k) (nI h) = f_Blk_headOf_6 N (mkC g own ps p o) f (nI j) (nI (k + 1)) (nI (h + 1 + n)) := by
          conv => lhs; unfold f_Blk_headOf_6
          refine ifn (top_le (by omega)) (ifn (fun q => hc ((nI_eq (by omega) (by omega)).mp q)) (bnd (sizeAt_c hh e1 e3 e2) ?_))
          rw [nI_s1, nI_1]
        have m1 : f_Mod_block_45 N (f + 1) (mkM d g (chgd ps) ch cn o us co la th) (nI j) what (nI h) (nI k) = f_Mod_block_45 N f (mkM d g (chgd ps) ch cn o us co la th) (nI j) what (nI (h + 1 + n)) (nI (k + 1)) := by
          conv => lhs; unfold f_Mod_block_45
          refine ifn (top_le (by omega)) (ifn (show ¬ nI j ≤ nI k from nI_ge (by omega) (by omega)) (bnd (sizeAt_m H1 H2 H3 (by omega) (by omega) e2) ?_))
          rw [nI_s2, nI_1]
        rw [c1, m1]
        exact ih (h + 1 + n) f (k + 1) e4 (by omega) (by omega) (by omega)
theorem headOf_neg {i : Int32} (hi : i < 0) : ∀ (bs : List (Nat × Bool)) (h f k : Nat), Seg own h bs 1024 → 176 ≤ h → 1024 < h + f → k ≤ h → f_Blk_headOf_6 N (mkC g own ps p o) f i (nI k) (nI h) = some (-1) := by
  intro bs
  induction bs with
  | nil =>
    intro h f k e hh hf hk
    have : h = 1024 := e
    subst this
    cases f with
    | zero => omega
    | succ f =>
      unfold f_Blk_headOf_6
      exact ift top_ge rfl
  | cons b bs ih =>
    obtain ⟨n, u⟩ := b
    intro h f k e hh hf hk
    obtain ⟨e1, e2, e3, e4⟩ := Seg_hd e
    cases f with
    | zero => omega
    | succ f =>
      unfold f_Blk_headOf_6
      refine ifn (top_le (by omega)) (ifn (fun q => nI_pos (n := k) (by have := Seg_le e; omega) (by rw [q]; exact hi)) (bnd (sizeAt_c hh e1 e3 e2) ?_))
      rw [nI_s1, nI_1]
      exact ih (h + 1 + n) f (k + 1) e4 (by omega) (by omega) (by omega)
end
