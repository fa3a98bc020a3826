/-! PURE SIDE 16: a commit written behind the log, on both sides -/
def ents (own : Nat → Int64) (ps : List Nat) : List (Nat × Int64) := ps.map (fun w => (w, own w))
/-- changes as they lie in the log -/
def lent : Nat → List (Nat × Int64) → List (Nat × Int64)
  | _, [] => []
  | p, e :: l => (p, lN e.1) :: (p + 1, e.2) :: lent (p + 2) l
theorem lent_len : ∀ (l : List (Nat × Int64)) (p : Nat), (lent p l).length = 2 * l.length
  | [], _ => rfl
  | e :: l, p => by
    show (lent (p + 2) l).length + 1 + 1 = 2 * (l.length + 1)
    rw [lent_len l]
    omega
theorem lent_mem : ∀ {l : List (Nat × Int64)} {p : Nat} {e : Nat × Int64}, e ∈ lent p l → p ≤ e.1 ∧ e.1 < p + 2 * l.length
  | [], _, _, h => by cases h
  | a :: l, p, e, h => by
    rw [List.length_cons]
    rcases List.mem_cons.mp h with h | h
    · subst h; exact ⟨Nat.le_refl _, by show p < p + 2 * (l.length + 1); omega⟩
    · rcases List.mem_cons.mp h with h | h
      · subst h; exact ⟨by show p ≤ p + 1; omega, by show p + 1 < p + 2 * (l.length + 1); omega⟩
      · have := lent_mem h; exact ⟨by omega, by omega⟩
theorem ents_len (own : Nat → Int64) (ps : List Nat) : (ents own ps).length = ps.length := List.length_map ..
/-- a commit's words -/
def apl (m : Nat → Int64) (p : Nat) (l : List (Nat × Int64)) (num : Nat) : List (Nat × Int64) := (p, 4096 * m 0 + lN l.length) :: (lent (p + 1) l ++ [(p + 1 + 2 * l.length, (-1 : Int64) - lN num)])
theorem apl_len (m : Nat → Int64) (p : Nat) (l : List (Nat × Int64)) (num : Nat) : (apl m p l num).length = 2 + 2 * l.length := by
  show (lent (p + 1) l ++ [_]).length + 1 = _
  rw [List.length_append, lent_len]
  show 2 * l.length + 1 + 1 = _
  omega
theorem apl_mem {m : Nat → Int64} {p num : Nat} {l : List (Nat × Int64)} {e : Nat × Int64} (h : e ∈ apl m p l num) : p ≤ e.1 ∧ e.1 < p + (2 + 2 * l.length) := by
  rcases List.mem_cons.mp h with h | h
  · subst h; exact ⟨Nat.le_refl _, by show p < p + (2 + 2 * l.length); omega⟩
  · rcases List.mem_append.mp h with h | h
    · have := lent_mem h; exact ⟨by omega, by omega⟩
    · rcases List.mem_cons.mp h with h | h
      · subst h; exact ⟨by show p ≤ p + 1 + 2 * l.length; omega, by show p + 1 + 2 * l.length < _; omega⟩
      · cases h
section
variable {N : Nat} {vL : LT} {g own : Nat → Int64} {ps : List Nat} {p : Nat → Int32} {ch : Nat → Int64} {o : Bool} {v : Nat → Int64} {cn us co : Int32} {la : Int64} {th : Int32}
theorem aw2 {s : Nat} (hN : 320 < N) (hs : psok ps) (hp : Pl p ps) (hr : s + 2 * ps.length ≤ 176) : ∀ (l : List Nat) (n : Nat) (d : DT) (w i : Nat), OnT d w → ps.drop i = l → i ≤ ps.length → w + 2 * l.length ≤ 320 → l.length < n → f_Log_appendWords_2 N vL (mkC g own ps p o) n d (nI s) (nI i) = some (sWrites d (lent (s + 2 * i) (ents own l))) := by
  intro l
  have hl := hs.2.2
  induction l with
  | nil =>
    intro n d w i hd hi hi2 hw hn
    obtain ⟨n, rfl⟩ : ∃ m, n = m + 1 := ⟨n - 1, by omega⟩
    have e : ps.length ≤ i := by
      have := congrArg List.length hi
      rw [List.length_drop] at this
      simp only [List.length_nil] at this
      omega
    unfold f_Log_appendWords_2
    exact bnd (x := nI ps.length) rfl (ift (nI_le e (by omega)) rfl)
  | cons a l ih =>
    intro n d w i hd hi hi2 hw hn
    simp only [List.length_cons] at hw hn
    obtain ⟨n, rfl⟩ : ∃ m, n = m + 1 := ⟨n - 1, by omega⟩
    obtain ⟨h1, h2, h3⟩ := drop_at hi
    have ha : a < 1024 := hs.2.1 a (List.mem_of_getElem? h1)
    unfold f_Log_appendWords_2
    have e1 : nI s + (2 : Int32) * nI i = nI (s + 2 * i) := by rw [show (2 : Int32) = nI 2 from rfl, pk_mul, nI_add]
    rw [e1, nI_1, nI_1]
    refine bnd (x := nI ps.length) rfl (ifn (nI_ge h3 (by omega)) (bnd (place_c hp hl h1) ?_))
    rw [nI_l (by omega)]
    refine bnd (wc hd (by omega) (by omega) hN) ?_
    have el : lent (s + 2 * i) (ents own (a :: l)) = (s + 2 * i, lN a) :: (s + 2 * i + 1, own a) :: lent (s + 2 * i + 2) (ents own l) := rfl
    rw [el]
    rcases wsp (k := s + 2 * i) (lN a) hd (by omega) (by omega) with ⟨a1, a2, a3⟩ | ⟨a1, a2⟩
    · refine ift a1 (bnd (read_c ha) (bnd (wc a2 (by omega) (by omega) hN) ?_))
      rw [sW_t a1]
      rcases wsp (k := s + 2 * i + 1) (own a) a2 (by omega) (by omega) with ⟨b1, b2, b3⟩ | ⟨b1, b2⟩
      · refine ift b1 ?_
        rw [sW_t b1, show s + 2 * i + 2 = s + 2 * (i + 1) by omega]
        exact ih n _ (w + 1 + 1) (i + 1) b2 h2 (by omega) (by omega) (by omega)
      · refine ifn (by rw [b1]; decide) ?_
        rw [sW_f b1]
    · refine ifn (by rw [a1]; decide) ?_
      rw [sW_f a1]
/-- APPEND, the class -/
theorem append_c {d : DT} {w u k lan : Nat} {sy : Bool} (hN : 1024 < N) (hd : OnT d w) (hw : w ≤ 160) (hs : psok ps) (hp : Pl p ps) (hr : u + (2 + 2 * ps.length) ≤ 160) (hla : lan + 1 < 2 ^ 31) : f_Log_append N (nI u, nI k, nI lan) d (mkC g own ps p o) sy = some ((sWrites d (apl d.2.1 (16 + u) (ents own ps) (lan + 1))).1, (if (sWrites d (apl d.2.1 (16 + u) (ents own ps) (lan + 1))).1 = true then (nI (u + (2 + 2 * ps.length)), nI (k + 1), nI (lan + 1)) else (nI u, nI k, nI lan)), if (sWrites d (apl d.2.1 (16 + u) (ents own ps) (lan + 1))).1 = true ∧ sy = true then sSync (sWrites d (apl d.2.1 (16 + u) (ents own ps) (lan + 1))).2 else (sWrites d (apl d.2.1 (16 + u) (ents own ps) (lan + 1))).2) := by
  have hl := hs.2.2
  unfold f_Log_append apl
  rw [ents_len]
  have e1 : (16 : Int32) + nI u = nI (16 + u) := nI_add 16 u
  have e2 : nI (16 + u + 1) + (2 : Int32) * nI ps.length = nI (16 + u + 1 + 2 * ps.length) := by rw [show (2 : Int32) = nI 2 from rfl, pk_mul, nI_add]
  have e3 : nI (16 + u + 1 + 2 * ps.length + 1) - (16 : Int32) = nI (u + (2 + 2 * ps.length)) := by rw [show (16 : Int32) = nI 16 from rfl, pk_sub (by omega)]; congr 1; omega
  refine bnd (x := nI ps.length) rfl (bnd (x := nI ps.length) rfl (bnd (front_c (by omega)) ?_))
  show (f_Disk_write N d ((16 : Int32) + nI u) (4096 * d.2.1 0 + lN ps.length)).bind _ = _
  rw [e1]
  refine bnd (wc hd (by omega) (by omega) (by omega)) ?_
  rcases wsp (k := 16 + u) (4096 * d.2.1 0 + lN ps.length) hd (by omega) (by omega) with ⟨a1, a2, a3⟩ | ⟨a1, a2⟩
  · refine ift a1 ?_
    rw [sW_t a1]
    rw [nI_1 (16 + u)]
    refine bnd (aw2 (vL := (nI u, nI k, nI lan)) (by omega) hs hp (by omega) ps N _ (w + 1) 0 a2 rfl (by omega) (by omega) (by omega)) ?_
    have hm : ∀ e ∈ lent (16 + u + 1) (ents own ps), e.1 < 1024 := fun e he => by
      have := lent_mem he
      rw [ents_len] at this
      omega
    have hlen := lent_len (ents own ps) (16 + u + 1)
    rw [ents_len] at hlen
    rw [Nat.mul_zero, Nat.add_zero]
    rcases wssp a2 hm (by omega) with ⟨b1, b2, b3⟩ | ⟨b1, b2⟩
    · refine ift b1 ?_
      rw [sWs_t b1]
      rw [e2, nI_1 lan, nI_l hla]
      refine bnd (wc b2 (by omega) (by omega) (by omega)) ?_
      rcases wsp (k := 16 + u + 1 + 2 * ps.length) ((-1 : Int64) - lN (lan + 1)) b2 (by omega) (by omega) with ⟨c1, c2, c3⟩ | ⟨c1, c2⟩
      · refine ift c1 ?_
        rw [sW_t c1]
        cases sy with
        | true =>
          refine ift rfl (bnd (sync_c _ c2.1 (by omega) (by omega)) ?_)
          rw [nI_1 (16 + u + 1 + 2 * ps.length), e3, nI_1 k]
          rfl
        | false =>
          refine ifn Bool.false_ne_true ?_
          rw [nI_1 (16 + u + 1 + 2 * ps.length), e3, nI_1 k]
          rfl
      · refine ifn (by rw [c1]; decide) ?_
        rw [sW_f c1]
        rfl
    · refine ifn (by rw [b1]; decide) ?_
      rw [sWs_f b1]
      rfl
  · refine ifn (by rw [a1]; decide) ?_
    rw [sW_f a1]
    rfl
/-- the reference's commit behind the changes -/
def cmt (N : Nat) (vM : MT) (y1 y2 y3 y4 : Int32) : Option (Int32 × MT) := (f_Mod_write N vM y4 ((-2 : Int64) - vM.2.2.2.2.2.2.2.2.2.2.2.2.2.1)).bind fun x11 => if x11.1 = true then if y1 = 0 then f_Mod_commit_234 N N x11.2 y1 y2 y3 y4 (0 : Int32) else (f_Mod_syncAll N x11.2).bind fun x15 => f_Mod_commit_234 N N x15.2 y1 y2 y3 y4 (0 : Int32) else some ((-2 : Int32), x11.2)
theorem head_of {i : Nat} {l : List Nat} (h1 : i ∈ l) (h2 : ∀ j ∈ l, i ≤ j) (h3 : l.Pairwise (· < ·)) : ∃ l', l = i :: l' := by
  cases l with
  | nil => cases h1
  | cons a l =>
    rcases List.mem_cons.mp h1 with h | h
    · exact ⟨l, by rw [h]⟩
    · have q1 := (List.pairwise_cons.mp h3).1 i h
      have q2 := h2 a List.mem_cons_self
      omega
theorem cm141 {y1 y2 y3 : Int32} (hN : 1024 < N) (h2 : chok own ch ps) : ∀ (n : Nat) (d : DT) (w i q : Nat) (l : List Nat), OnT d w → i ≤ 1024 → 1024 < i + n → (∀ j ∈ l, i ≤ j ∧ j < 1024) → l.Pairwise (· < ·) → (∀ j, i ≤ j → (j ∈ ps ↔ j ∈ l)) → w + 2 * l.length ≤ 320 → q + 2 * l.length ≤ 176 → f_Mod_commit_141 N n (mkM d v (chgd ps) ch cn o us co la th) y1 y2 y3 (nI q) (nI i) = if (sWrites d (lent q (ents own l))).1 = true then cmt N (mkM (sWrites d (lent q (ents own l))).2 v (chgd ps) ch cn o us co la th) y1 y2 y3 (nI (q + 2 * l.length)) else some ((-2 : Int32), mkM (sWrites d (lent q (ents own l))).2 v (icz (chgd ps)) ch 0 false us co la th) := by
  intro n
  induction n with
  | zero => intro d w i q l hd h3 h4; omega
  | succ n ih =>
    intro d w i q l hd hi hf hl hs hm hw hq
    unfold f_Mod_commit_141
    by_cases he : i = 1024
    · subst he
      have e : l = [] := by
        cases l with
        | nil => rfl
        | cons a l => have := hl a List.mem_cons_self; omega
      subst e
      exact (ift top_ge rfl).trans (if_pos rfl).symm
    · refine ifn (top_le (by omega)) (ift (gI_nI (by omega) (by omega)) ?_)
      rw [clN (show i < 2 ^ 31 by omega), nI_1 i]
      show (if chgd ps i = 0 then _ else _) = _
      by_cases hin : i ∈ ps
      · have hil := (hm i (Nat.le_refl _)).mp hin
        obtain ⟨l', rfl⟩ := head_of hil (fun j hj => (hl j hj).1) hs
        simp only [List.length_cons] at hw hq
        have el : lent q (ents own (i :: l')) = (q, lN i) :: (q + 1, own i) :: lent (q + 2) (ents own l') := rfl
        rw [el, nI_l (show i < 2 ^ 31 by omega), nI_1 q]
        refine ifn (by rw [chgd_in hin]; decide) ?_
        have hpw := List.pairwise_cons.mp hs
        rcases wsp (k := q) (lN i) hd (by omega) (by omega) with ⟨a1, a2, a3⟩ | ⟨a1, a2⟩
        · refine bnd (wm_t hd (by omega) (by omega) hN a1) (ift rfl (ift (gI_nI (by omega) (by omega)) ?_))
          show (f_Mod_write N (mkM (sWrite d q (lN i)).2 v (chgd ps) ch cn o us co la th) (nI (q + 1)) (ch i)).bind _ = _
          rw [h2 i hin, sW_t a1]
          rcases wsp (k := q + 1) (own i) a2 (by omega) (by omega) with ⟨b1, b2, b3⟩ | ⟨b1, b2⟩
          · refine bnd (wm_t a2 (by omega) (by omega) hN b1) (ift rfl ?_)
            rw [sW_t b1, show nI q + (2 : Int32) = nI (q + 2) from nI_add q 2, List.length_cons, show q + 2 * (l'.length + 1) = q + 2 + 2 * l'.length by omega]
            refine ih _ (w + 1 + 1) (i + 1) (q + 2) l' b2 (by omega) (by omega) (fun j hj => ⟨hpw.1 j hj, (hl j (List.mem_cons_of_mem _ hj)).2⟩) hpw.2 (fun j hj => ⟨fun z => ?_, fun z => (hm j (by omega)).mpr (List.mem_cons_of_mem _ z)⟩) (by omega) (by omega)
            rcases List.mem_cons.mp ((hm j (by omega)).mp z) with y | y
            · omega
            · exact y
          · refine bnd (wm_f a2 (by omega) (by omega) hN b1) (ifn Bool.false_ne_true ?_)
            rw [sW_f b1]
            exact (if_neg Bool.false_ne_true).symm
        · refine bnd (wm_f hd (by omega) (by omega) hN a1) (ifn Bool.false_ne_true ?_)
          rw [sW_f a1]
          exact (if_neg Bool.false_ne_true).symm
      · refine ift (chgd_out hin) ?_
        refine ih d w (i + 1) q l hd (by omega) (by omega) (fun j hj => ⟨?_, (hl j hj).2⟩) hs (fun j hj => hm j (by omega)) hw hq
        have q1 := (hl j hj).1
        have q2 : j ≠ i := fun z => hin ((hm i (Nat.le_refl _)).mpr (z ▸ hj))
        omega
theorem icz_nil (hs : psok ps) : icz (chgd ps) = chgd [] := funext fun j => by
  unfold icz upto
  by_cases h : j < 1024
  · rw [if_pos h, chgd_nil]
  · rw [if_neg h, chgd_nil, chgd_out (fun q => h (hs.2.1 j q))]
theorem cm234 {d : DT} {y1 y2 y3 y4 : Int32} (hN : 1024 < N) (hs : psok ps) (h1 : ownok v own ps) (h2 : chok own ch ps) : ∀ (k n i : Nat), i + k = 1024 → k < n → f_Mod_commit_234 N n (mkM d (upto own v i) (chgd ps) ch cn o us co la th) y1 y2 y3 y4 (nI i) = some ((la + 1).toInt32, mkM d (upto own v 1024) (chgd []) ch 0 false (us + y3) (co + 1) (la + 1) th) := by
  intro k
  induction k with
  | zero =>
    intro n i hi hn
    obtain ⟨n, rfl⟩ : ∃ m, n = m + 1 := ⟨n - 1, by omega⟩
    have e : i = 1024 := by omega
    subst e
    unfold f_Mod_commit_234
    have h5 := drop_m (N := N) d (upto own v 1024) (chgd ps) ch cn o (us + y3) (co + 1) (la + 1) th hN
    rw [icz_nil hs] at h5
    exact ift top_ge (bnd h5 rfl)
  | succ k ih =>
    intro n i hi hn
    obtain ⟨n, rfl⟩ : ∃ m, n = m + 1 := ⟨n - 1, by omega⟩
    unfold f_Mod_commit_234
    refine ifn (top_le (by omega)) (ift (gI_nI (by omega) (by omega)) ?_)
    have h3 := ih n (i + 1) (by omega) (by omega)
    rw [← nI_1, ← upto_L] at h3
    rw [clN (show i < 2 ^ 31 by omega)]
    show (if chgd ps i = 0 then _ else _) = _
    by_cases hin : i ∈ ps
    · rw [← h2 i hin] at h3
      exact ifn (by rw [chgd_in hin]; decide) (ift (gI_nI (by omega) (by omega)) (ift (gI_nI (by omega) (by omega)) h3))
    · have e : own i = upto own v i i := by
        unfold upto
        rw [if_neg (Nat.lt_irrefl _), h1 i hin]
      rw [e] at h3
      exact ift (chgd_out hin) (ift (gI_nI (by omega) (by omega)) (ift (gI_nI (by omega) (by omega)) h3))
theorem upto_own (hs : psok ps) (h1 : ownok v own ps) : upto own v 1024 = own := funext fun j => by
  unfold upto
  by_cases h : j < 1024
  · rw [if_pos h]
  · rw [if_neg h, h1 j (fun q => h (hs.2.1 j q))]
/-- the reference's commit, where there may be room -/
def cmw (N : Nat) (vM : MT) (p1 : Bool) (cn : Int32) : Option (Int32 × MT) := if ((2 : Int32) + ((2 : Int32) * cn)) ≤ ((160 : Int32) - vM.2.2.2.2.2.2.2.2.2.2.2.1) then if gI (0 : Int32) 1024 = true then (f_Mod_write N vM ((16 : Int32) + vM.2.2.2.2.2.2.2.2.2.2.2.1) (((4096 : Int64) * (vM.2.1 (0 : Int32).toNatClampNeg)) + cn.toInt64)).bind fun x33 => if x33.1 = true then f_Mod_commit_141 N N x33.2 (bI p1) cn ((2 : Int32) + ((2 : Int32) * cn)) (((16 : Int32) + vM.2.2.2.2.2.2.2.2.2.2.2.1) + (1 : Int32)) (0 : Int32) else some ((-2 : Int32), x33.2) else none else some ((-1 : Int32), vM)
theorem cmw_yes {d : DT} {w u k lan : Nat} {sy : Bool} (hN : 1024 < N) (hd : OnT d w) (hw : w ≤ 160) (hs : psok ps) (h1 : ownok v own ps) (h2 : chok own ch ps) (hr : u + (2 + 2 * ps.length) ≤ 160) (hla : lan + 1 < 2 ^ 31) : cmw N (mkM d v (chgd ps) ch (nI ps.length) o (nI u) (nI k) (lN lan) th) sy (nI ps.length) = some ((if (sWrites d (apl d.2.1 (16 + u) (ents own ps) (lan + 1))).1 = true then nI (lan + 1) else (-2)), if (sWrites d (apl d.2.1 (16 + u) (ents own ps) (lan + 1))).1 = true then mkM (if (sWrites d (apl d.2.1 (16 + u) (ents own ps) (lan + 1))).1 = true ∧ sy = true then sSync (sWrites d (apl d.2.1 (16 + u) (ents own ps) (lan + 1))).2 else (sWrites d (apl d.2.1 (16 + u) (ents own ps) (lan + 1))).2) own (chgd []) ch 0 false (nI (u + (2 + 2 * ps.length))) (nI (k + 1)) (lN (lan + 1)) th else mkM (sWrites d (apl d.2.1 (16 + u) (ents own ps) (lan + 1))).2 v (chgd []) ch 0 false (nI u) (nI k) (lN lan) th) := by
  have hl := hs.2.2
  unfold cmw apl
  rw [ents_len]
  have e0 : (2 : Int32) + (2 : Int32) * nI ps.length = nI (2 + 2 * ps.length) := by rw [show (2 : Int32) = nI 2 from rfl, pk_mul, nI_add]
  have e1 : (16 : Int32) + nI u = nI (16 + u) := nI_add 16 u
  have e2 : (160 : Int32) - nI u = nI (160 - u) := by rw [show (160 : Int32) = nI 160 from rfl, pk_sub (by omega)]
  rw [e0]
  refine ift (by show nI (2 + 2 * ps.length) ≤ (160 : Int32) - nI u; rw [e2]; exact nI_le (by omega) (by omega)) (ift (gI_nI (k := 0) (by omega) (by omega)) ?_)
  show (f_Mod_write N (mkM d v (chgd ps) ch (nI ps.length) o (nI u) (nI k) (lN lan) th) ((16 : Int32) + nI u) (4096 * d.2.1 0 + (nI ps.length).toInt64)).bind (fun x33 => if x33.1 = true then f_Mod_commit_141 N N x33.2 (bI sy) (nI ps.length) (nI (2 + 2 * ps.length)) ((16 : Int32) + nI u + (1 : Int32)) (nI 0) else some ((-2 : Int32), x33.2)) = _
  rw [e1, nI_l (by omega), nI_1]
  rcases wsp (k := 16 + u) (4096 * d.2.1 0 + lN ps.length) hd (by omega) (by omega) with ⟨a1, a2, a3⟩ | ⟨a1, a2⟩
  · refine bnd (wm_t hd (by omega) (by omega) hN a1) (ift rfl ?_)
    rw [sW_t a1]
    refine (cm141 hN h2 N _ (w + 1) 0 (16 + u + 1) ps a2 (by omega) (by omega) (fun j hj => ⟨Nat.zero_le _, hs.2.1 j hj⟩) hs.1 (fun j _ => Iff.rfl) (by omega) (by omega)).trans ?_
    have hm : ∀ e ∈ lent (16 + u + 1) (ents own ps), e.1 < 1024 := fun e he => by
      have := lent_mem he
      rw [ents_len] at this
      omega
    have hlen := lent_len (ents own ps) (16 + u + 1)
    rw [ents_len] at hlen
    rcases wssp a2 hm (by omega) with ⟨b1, b2, b3⟩ | ⟨b1, b2⟩
    · rw [if_pos b1, sWs_t b1]
      unfold cmt
      show (f_Mod_write N _ (nI (16 + u + 1 + 2 * ps.length)) ((-2 : Int64) - lN lan)).bind _ = _
      rw [back_two]
      rcases wsp (k := 16 + u + 1 + 2 * ps.length) ((-1 : Int64) - lN (lan + 1)) b2 (by omega) (by omega) with ⟨c1, c2, c3⟩ | ⟨c1, c2⟩
      · refine bnd (wm_t b2 (by omega) (by omega) hN c1) (ift rfl ?_)
        rw [sW_t c1]
        have h9 : ∀ (D : DT) (Y1 : Int32), f_Mod_commit_234 N N (mkM D v (chgd ps) ch (nI ps.length) o (nI u) (nI k) (lN lan) th) Y1 (nI ps.length) (nI (2 + 2 * ps.length)) (nI (16 + u + 1 + 2 * ps.length)) (0 : Int32) = some (nI (lan + 1), mkM D own (chgd []) ch 0 false (nI (u + (2 + 2 * ps.length))) (nI (k + 1)) (lN (lan + 1)) th) := fun D Y1 => by
          have h := cm234 (N := N) (d := D) (y1 := Y1) (y2 := nI ps.length) (y3 := nI (2 + 2 * ps.length)) (y4 := nI (16 + u + 1 + 2 * ps.length)) (cn := nI ps.length) (o := o) (us := nI u) (co := nI k) (la := lN lan) (th := th) hN hs h1 h2 1024 N 0 (by omega) (by omega)
          rw [upto_0, upto_own hs h1, nI_add, nI_1, lN_1, lN_i] at h
          exact h
        cases sy with
        | true =>
          refine ifn (by decide) (bnd (sync_m _ v (chgd ps) ch (nI ps.length) o (nI u) (nI k) (lN lan) th c2.1 (by omega) (by omega)) ?_)
          exact h9 _ _
        | false =>
          exact ift rfl (h9 _ _)
      · refine bnd (wm_f b2 (by omega) (by omega) hN c1) (ifn Bool.false_ne_true ?_)
        rw [sW_f c1, icz_nil hs]
        rfl
    · rw [if_neg (by rw [b1]; decide), sWs_f b1, icz_nil hs]
      rfl
  · refine bnd (wm_f hd (by omega) (by omega) hN a1) (ifn Bool.false_ne_true ?_)
    rw [sW_f a1, icz_nil hs]
    rfl
end
