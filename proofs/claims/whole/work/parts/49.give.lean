/-! PURE SIDE 10: give, whole -/
section
variable {N : Nat} {d : DT} {g own : Nat → Int64} {ps : List Nat} {p : Nat → Int32} {ch : Nat → Int64} {o : Bool} {us co : Int32} {la : Int64} {th : Int32} {c : Nat → Int32} {sz cn : Int32}
theorem free_none {i : Int32} (h : f_Heap_isWord i = some false) : f_Blk_freeAt (g, own, c, p, sz, o) i = some 0 := by
  have hr : f_Chg_read (g, own, c, p, sz, o) i = some 0 := by
    unfold f_Chg_read
    exact bnd h (ifn Bool.false_ne_true rfl)
  unfold f_Blk_freeAt
  refine bnd (x := false) ?_ (ifn Bool.false_ne_true (bnd (x := 0) ?_ rfl))
  · unfold f_Blk_isUsed
    exact bnd hr (ifn (by decide) rfl)
  · unfold f_Blk_sizeAt
    refine bnd hr ?_
    by_cases q : i < (176 : Int32)
    · exact ift q rfl
    · exact ifn q (ift (by decide) rfl)
/-- the words that the blocks behind bring along -/
def exN : List (Nat × Bool) → Nat
  | (n, false) :: _ => n
  | _ => 0
/-- .. and what is left of them -/
def exB : List (Nat × Bool) → List (Nat × Bool)
  | (_, false) :: B => B
  | B => B
theorem next_c {h : Nat} {B : List (Nat × Bool)} (e : Seg own h B 1024) (hh : 176 ≤ h) : f_Blk_freeAt (g, own, c, p, sz, o) (nI h) = some (nI (exN B)) := by
  cases B with
  | nil =>
    have : h = 1024 := e
    subst this
    exact free_none (by decide)
  | cons b B =>
    obtain ⟨n, u⟩ := b
    obtain ⟨e1, e2, e3, e4⟩ := Seg_hd e
    rw [freeAt_c hh e1 e3 e2]
    cases u <;> rfl
/-- the block before, both sides -/
theorem before_both (H : HS g own ch ps o) {k : Nat} (hk : k < 1024) (y1 y3 y4 : Int32) : ∀ (A : List (Nat × Bool)) (h f : Nat) (y5 : Int32), Seg own h A k → 176 ≤ h → 1024 < h + f → (A = [] ∧ f_Blk_headBefore_6 N (mkC g own ps p o) f (nI k) y5 (nI h) = some y5 ∧ f_Mod_give_99 N f (mkM d g (chgd ps) ch cn o us co la th) y1 (nI k) y3 y4 y5 (nI h) = gvt (mkM d g (chgd ps) ch cn o us co la th) (nI k) y3 y5) ∨ ∃ A' n0 u0 k0, A = A' ++ [(n0, u0)] ∧ Seg own h A' k0 ∧ h ≤ k0 ∧ 1 ≤ n0 ∧ k0 + 1 + n0 = k ∧ own k0 = hd n0 u0 ∧ f_Blk_headBefore_6 N (mkC g own ps p o) f (nI k) y5 (nI h) = some (nI k0) ∧ f_Mod_give_99 N f (mkM d g (chgd ps) ch cn o us co la th) y1 (nI k) y3 y4 y5 (nI h) = gvt (mkM d g (chgd ps) ch cn o us co la th) (nI k) y3 (nI k0) := by
  obtain ⟨H1, H2, H3⟩ := H
  intro A
  induction A with
  | nil =>
    intro h f y5 e hh hf
    have : h = k := e
    subst this
    cases f with
    | zero => omega
    | succ f =>
      refine Or.inl ⟨rfl, ?_, ?_⟩
      · unfold f_Blk_headBefore_6
        exact ift (nI_le (Nat.le_refl _) (by omega)) rfl
      · unfold f_Mod_give_99 gvt
        exact ift (nI_le (Nat.le_refl _) (by omega)) rfl
  | cons b A ih =>
    obtain ⟨n, u⟩ := b
    intro h f y5 e hh hf
    obtain ⟨e1, e2, e4⟩ := e
    have e3 := Seg_le e4
    cases f with
    | zero => omega
    | succ f =>
      have c1 : f_Blk_headBefore_6 N (mkC g own ps p o) (f + 1) (nI k) y5 (nI h) = f_Blk_headBefore_6 N (mkC g own ps p o) f (nI k) (nI h) (nI (h + 1 + n)) := by
        conv => lhs; unfold f_Blk_headBefore_6
        refine ifn (show ¬ nI k ≤ nI h from nI_ge (by omega) (by omega)) (bnd (sizeAt_c hh e1 (by omega) e2) ?_)
        rw [nI_s1]
      have m1 : f_Mod_give_99 N (f + 1) (mkM d g (chgd ps) ch cn o us co la th) y1 (nI k) y3 y4 y5 (nI h) = f_Mod_give_99 N f (mkM d g (chgd ps) ch cn o us co la th) y1 (nI k) y3 y4 (nI h) (nI (h + 1 + n)) := by
        conv => lhs; unfold f_Mod_give_99
        refine ifn (show ¬ nI k ≤ nI h from nI_ge (by omega) (by omega)) (bnd (sizeAt_m H1 H2 H3 (by omega) (by omega) e2) ?_)
        rw [nI_s2]
      rw [c1, m1]
      rcases ih (h + 1 + n) f (nI h) e4 (by omega) (by omega) with ⟨rfl, q2, q3⟩ | ⟨A', n0, u0, k0, q1, q2, q3, q4, q5, q6, q7, q8⟩
      · exact Or.inr ⟨[], n, u, h, rfl, rfl, Nat.le_refl _, e1, e4, e2, q2, q3⟩
      · exact Or.inr ⟨(n, u) :: A', n0, u0, k0, by rw [q1]; rfl, ⟨e1, e2, q2⟩, by omega, q4, q5, q6, q7, q8⟩
/-- a block's words and its neighbours': the chain when the head at first tells of s words -/
theorem seg_give {A B : List (Nat × Bool)} {k0 s : Nat} (h1 : Seg own 176 A k0) (h2 : 1 ≤ s) (h3 : Seg own (k0 + 1 + s) B 1024) : Seg (vp_updL own k0 (hd s false)) 176 (A ++ (s, false) :: B) 1024 :=
  Seg_app.mpr ⟨k0, Seg_congr h1 (fun j a b => pk_uLn (by omega)), h2, pk_uLs, Seg_congr h3 (fun j a b => pk_uLn (by omega))⟩
end
section
variable {N : Nat} {d : DT} {g own : Nat → Int64} {ps : List Nat} {p : Nat → Int32} {ch : Nat → Int64} {us co : Int32} {la : Int64} {th : Int32}
/-- GIVE, of the used block at k: both sides answer alike, and the heap is a chain then too -/
theorem give_both {k n : Nat} {A B : List (Nat × Bool)} {a : Int32} (H : TS g own ch ps p) (hN : 2000 < N) (hA : Seg own 176 A k) (hn : 1 ≤ n) (hk : own k = hd n true) (hB : Seg own (k + 1 + n) B 1024) :
    ∃ x, (f_Mod_sizeAt (mkM d g (chgd ps) ch (nI ps.length) true us co la th) (nI k)).bind (fun x28 => if (1024 : Int32) ≤ ((nI k + (1 : Int32)) + x28) then f_Mod_give_99 N N (mkM d g (chgd ps) ch (nI ps.length) true us co la th) a (nI k) x28 ((nI k + (1 : Int32)) + x28) (-1 : Int32) (176 : Int32) else (f_Mod_isUsedAt (mkM d g (chgd ps) ch (nI ps.length) true us co la th) ((nI k + (1 : Int32)) + x28)).bind fun x31 => if x31 = true then f_Mod_give_99 N N (mkM d g (chgd ps) ch (nI ps.length) true us co la th) a (nI k) x28 ((nI k + (1 : Int32)) + x28) (-1 : Int32) (176 : Int32) else (f_Mod_sizeAt (mkM d g (chgd ps) ch (nI ps.length) true us co la th) ((nI k + (1 : Int32)) + x28)).bind fun x34 => f_Mod_give_99 N N (mkM d g (chgd ps) ch (nI ps.length) true us co la th) a (nI k) (x28 + (x34 + (1 : Int32))) ((nI k + (1 : Int32)) + x28) (-1 : Int32) (176 : Int32)) = some x ∧ ((x = (-1, mkM d g (chgd ps) ch (nI ps.length) true us co la th) ∧ f_Blk_giveBack N (mkC g own ps p true) (nI k) = some (-1, mkC g own ps p true)) ∨ ∃ s own' ps' p' ch' bs', x = (nI s, mkM d g (chgd ps') ch' (nI ps'.length) true us co la th) ∧ f_Blk_giveBack N (mkC g own ps p true) (nI k) = some (nI s, mkC g own' ps' p' true) ∧ TS g own' ch' ps' p' ∧ Seg own' 176 bs' 1024) := by
  have hl := H.2.1.2.2
  have hHS := H.1
  obtain ⟨H1, H2, H3⟩ := H.1
  have h176 := Seg_le hA
  have htop := Seg_le hB
  have er : nI k + 1 + nI n = nI (k + 1 + n) := by rw [nI_1, nI_add]
  -- the size with the next one's words
  obtain ⟨s1, B1, hs1, hs1n, hB1, hs1c⟩ : ∃ s1 B1, s1 = (if exN B = 0 then n else n + (1 + exN B)) ∧ 1 ≤ s1 ∧ Seg own (k + 1 + s1) B1 1024 ∧ True := by
    cases B with
    | nil => exact ⟨n, [], rfl, hn, hB, trivial⟩
    | cons b B =>
      obtain ⟨n2, u2⟩ := b
      cases u2 with
      | true => exact ⟨n, (n2, true) :: B, rfl, hn, hB, trivial⟩
      | false =>
        obtain ⟨e1, e2, e3, e4⟩ := Seg_hd hB
        refine ⟨n + (1 + n2), B, ?_, by omega, ?_, trivial⟩
        · show _ = if n2 = 0 then n else n + (1 + n2)
          rw [if_neg (by omega)]
        · rw [show k + 1 + (n + (1 + n2)) = k + 1 + n + 1 + n2 by omega]
          exact e4
  have htop1 := Seg_le hB1
  -- the reference comes to the search of the one before, with that size
  have mod1 : ∀ {r}, f_Mod_give_99 N N (mkM d g (chgd ps) ch (nI ps.length) true us co la th) a (nI k) (nI s1) (nI (k + 1 + n)) (-1 : Int32) (176 : Int32) = r → (f_Mod_sizeAt (mkM d g (chgd ps) ch (nI ps.length) true us co la th) (nI k)).bind (fun x28 => if (1024 : Int32) ≤ ((nI k + (1 : Int32)) + x28) then f_Mod_give_99 N N (mkM d g (chgd ps) ch (nI ps.length) true us co la th) a (nI k) x28 ((nI k + (1 : Int32)) + x28) (-1 : Int32) (176 : Int32) else (f_Mod_isUsedAt (mkM d g (chgd ps) ch (nI ps.length) true us co la th) ((nI k + (1 : Int32)) + x28)).bind fun x31 => if x31 = true then f_Mod_give_99 N N (mkM d g (chgd ps) ch (nI ps.length) true us co la th) a (nI k) x28 ((nI k + (1 : Int32)) + x28) (-1 : Int32) (176 : Int32) else (f_Mod_sizeAt (mkM d g (chgd ps) ch (nI ps.length) true us co la th) ((nI k + (1 : Int32)) + x28)).bind fun x34 => f_Mod_give_99 N N (mkM d g (chgd ps) ch (nI ps.length) true us co la th) a (nI k) (x28 + (x34 + (1 : Int32))) ((nI k + (1 : Int32)) + x28) (-1 : Int32) (176 : Int32)) = r := by
    intro r h
    refine bnd (sizeAt_m H1 H2 H3 (by omega) (by omega) hk) ?_
    rw [er]
    cases B with
    | nil =>
      have e5 : k + 1 + n = 1024 := hB
      refine ift (by rw [e5]; exact top_ge) ?_
      rw [hs1] at h
      exact h
    | cons b B =>
      obtain ⟨n2, u2⟩ := b
      obtain ⟨e1, e2, e3, e4⟩ := Seg_hd hB
      refine ifn (top_le (by omega)) (bnd (isUsedAt_m H1 H2 H3 (by omega) (by omega) e2) ?_)
      cases u2 with
      | true =>
        refine ift rfl ?_
        rw [hs1] at h
        exact h
      | false =>
        refine ifn (by decide) (bnd (sizeAt_m H1 H2 H3 (by omega) (by omega) e2) ?_)
        have e6 : s1 = n + 1 + n2 := by
          rw [hs1]
          show (if n2 = 0 then n else n + (1 + n2)) = _
          rw [if_neg (by omega)]
          omega
        rw [nI_s2, ← e6]
        exact h
  have cls1 : ∀ {r}, ((f_Blk_headBefore N (mkC g own ps p true) (nI k)).bind fun x21 => (f_Blk_freeAt (mkC g own ps p true) x21).bind fun x23 => if x23 ≤ 0 then (f_Chg_change N (mkC g own ps p true) (nI k) (hd s1 false)).bind fun x26 => if x26.1 = true then some (nI s1, x26.2) else some ((-1 : Int32), x26.2) else (f_Blk_freeAt (mkC g own ps p true) x21).bind fun x29 => (f_Chg_change N (mkC g own ps p true) x21 ((2 : Int64) * ((nI s1 + ((1 : Int32) + x29)).toInt64))).bind fun x31 => if x31.1 = true then some (nI s1 + ((1 : Int32) + x29), x31.2) else some ((-1 : Int32), x31.2)) = r → f_Blk_giveBack N (mkC g own ps p true) (nI k) = r := by
    intro r h
    unfold f_Blk_giveBack
    refine bnd (sizeAt_c h176 hn htop hk) ?_
    rw [er]
    refine bnd (next_c hB (by omega)) ?_
    by_cases hx : exN B = 0
    · rw [hx]
      rw [if_pos hx] at hs1
      subst hs1
      rw [hd_f (by omega)]
      exact ift (by decide) h
    · rw [if_neg hx] at hs1
      have e7 : nI n + ((1 : Int32) + nI (exN B)) = nI s1 := by
        rw [nI_s1, hs1]
        congr 1
        omega
      refine ifn (nI_nle (by omega) (by
        have : exN B ≤ s1 := by omega
        omega)) (bnd (next_c hB (by omega)) ?_)
      rw [e7, hd_f (by omega)]
      exact h
  have hkl : k < 1024 := by omega
  rcases before_both (N := N) (p := p) (d := d) (us := us) (co := co) (la := la) (th := th) (cn := nI ps.length) hHS hkl a (nI s1) (nI (k + 1 + n)) A 176 N (-1) hA (Nat.le_refl _) (by omega) with ⟨q1, q2, q3⟩ | ⟨A', n0, u0, k0, q1, q2, q3, q4, q5, q6, q7, q8⟩
  · -- nothing before
    have fin := try_both (N := N) (d := d) (us := us) (co := co) (la := la) (th := th) (x := hd s1 false) H hkl (Or.inr h176) (by omega)
    have m2 : f_Mod_give_99 N N (mkM d g (chgd ps) ch (nI ps.length) true us co la th) a (nI k) (nI s1) (nI (k + 1 + n)) (-1 : Int32) (176 : Int32) = _ := q3
    have c2 : f_Blk_headBefore N (mkC g own ps p true) (nI k) = some (-1) := q2
    rcases fin with ⟨p', ch', a1, a2, a3⟩ | ⟨a1, a2⟩
    · refine ⟨_, mod1 (m2.trans ?_), Or.inr ⟨s1, _, _, p', ch', A ++ (s1, false) :: B1, rfl, cls1 (bnd c2 (bnd (free_none (by decide)) (ift (by decide) (bnd a1 (ift rfl rfl))))), a3, seg_give hA hs1n hB1⟩⟩
      unfold gvt
      refine ift (by decide) ?_
      rw [hd_f (by omega)]
      exact bnd a2 (ift rfl rfl)
    · refine ⟨_, mod1 (m2.trans ?_), Or.inl ⟨rfl, cls1 (bnd c2 (bnd (free_none (by decide)) (ift (by decide) (bnd a1 (ifn Bool.false_ne_true rfl)))))⟩⟩
      unfold gvt
      refine ift (by decide) ?_
      rw [hd_f (by omega)]
      exact bnd a2 (ifn Bool.false_ne_true rfl)
  · have m2 : f_Mod_give_99 N N (mkM d g (chgd ps) ch (nI ps.length) true us co la th) a (nI k) (nI s1) (nI (k + 1 + n)) (-1 : Int32) (176 : Int32) = _ := q8
    have c2 : f_Blk_headBefore N (mkC g own ps p true) (nI k) = some (nI k0) := q7
    have hfb := freeAt_c (g := g) (c := chgd ps) (p := p) (sz := nI ps.length) (o := true) (h := k0) (n := n0) (u := u0) (own := own) (by omega) q4 (by omega) q6
    cases u0 with
    | true =>
      have fin := try_both (N := N) (d := d) (us := us) (co := co) (la := la) (th := th) (x := hd s1 false) H hkl (Or.inr h176) (by omega)
      rcases fin with ⟨p', ch', a1, a2, a3⟩ | ⟨a1, a2⟩
      · refine ⟨_, mod1 (m2.trans ?_), Or.inr ⟨s1, _, _, p', ch', A ++ (s1, false) :: B1, rfl, cls1 (bnd c2 (bnd hfb (ift (show nI 0 ≤ 0 by decide) (bnd a1 (ift rfl rfl))))), a3, seg_give hA hs1n hB1⟩⟩
        unfold gvt
        refine ifn (nI_pos (by omega)) (bnd (isUsedAt_m H1 H2 H3 (by omega) (by omega) q6) (ift rfl ?_))
        rw [hd_f (by omega)]
        exact bnd a2 (ift rfl rfl)
      · refine ⟨_, mod1 (m2.trans ?_), Or.inl ⟨rfl, cls1 (bnd c2 (bnd hfb (ift (show nI 0 ≤ 0 by decide) (bnd a1 (ifn Bool.false_ne_true rfl)))))⟩⟩
        unfold gvt
        refine ifn (nI_pos (by omega)) (bnd (isUsedAt_m H1 H2 H3 (by omega) (by omega) q6) (ift rfl ?_))
        rw [hd_f (by omega)]
        exact bnd a2 (ifn Bool.false_ne_true rfl)
    | false =>
      have e8 : nI s1 + ((1 : Int32) + nI n0) = nI (s1 + 1 + n0) := nI_s1 _ _
      have e9 : nI s1 + (nI n0 + (1 : Int32)) = nI (s1 + 1 + n0) := nI_s2 _ _
      have hseg : Seg own (k0 + 1 + (s1 + 1 + n0)) B1 1024 := by
        rw [show k0 + 1 + (s1 + 1 + n0) = k + 1 + s1 by omega]
        exact hB1
      have fin := try_both (N := N) (d := d) (us := us) (co := co) (la := la) (th := th) (x := hd (s1 + 1 + n0) false) H (show k0 < 1024 by omega) (Or.inr (by omega)) (by omega)
      have hnz : ¬ nI n0 ≤ 0 := nI_nle (by omega) (by omega)
      rcases fin with ⟨p', ch', a1, a2, a3⟩ | ⟨a1, a2⟩
      · refine ⟨_, mod1 (m2.trans ?_), Or.inr ⟨s1 + 1 + n0, _, _, p', ch', A' ++ (s1 + 1 + n0, false) :: B1, rfl, cls1 (bnd c2 (bnd hfb (ifn hnz (bnd hfb ?_)))), a3, seg_give q2 (by omega) hseg⟩⟩
        · unfold gvt
          refine ifn (nI_pos (by omega)) (bnd (isUsedAt_m H1 H2 H3 (by omega) (by omega) q6) (ifn Bool.false_ne_true (bnd (sizeAt_m H1 H2 H3 (by omega) (by omega) q6) ?_)))
          rw [e9, hd_f (by omega)]
          exact bnd a2 (ift rfl rfl)
        · show (f_Chg_change N (mkC g own ps p true) (nI k0) ((2 : Int64) * ((nI s1 + ((1 : Int32) + nI n0)).toInt64))).bind (fun x31 => if x31.1 = true then some (nI s1 + ((1 : Int32) + nI n0), x31.2) else some ((-1 : Int32), x31.2)) = _
          rw [e8, hd_f (by omega)]
          exact bnd a1 (ift rfl rfl)
      · refine ⟨_, mod1 (m2.trans ?_), Or.inl ⟨rfl, cls1 (bnd c2 (bnd hfb (ifn hnz (bnd hfb ?_))))⟩⟩
        · unfold gvt
          refine ifn (nI_pos (by omega)) (bnd (isUsedAt_m H1 H2 H3 (by omega) (by omega) q6) (ifn Bool.false_ne_true (bnd (sizeAt_m H1 H2 H3 (by omega) (by omega) q6) ?_)))
          rw [e9, hd_f (by omega)]
          exact bnd a2 (ifn Bool.false_ne_true rfl)
        · show (f_Chg_change N (mkC g own ps p true) (nI k0) ((2 : Int64) * ((nI s1 + ((1 : Int32) + nI n0)).toInt64))).bind (fun x31 => if x31.1 = true then some (nI s1 + ((1 : Int32) + nI n0), x31.2) else some ((-1 : Int32), x31.2)) = _
          rw [e8, hd_f (by omega)]
          exact bnd a1 (ifn Bool.false_ne_true rfl)
end
