/-! PURE SIDE 15: the log gone through, on both sides -/
/-- the words of the log up to its last one that isn't 0 -/
def dw (m : Nat → Int64) : Nat → Nat
  | 0 => 0
  | n + 1 => if m (16 + n) = 0 then dw m n else n + 1
theorem dw_le (m : Nat → Int64) : ∀ n, dw m n ≤ n
  | 0 => Nat.le_refl _
  | n + 1 => by
    unfold dw
    by_cases h : m (16 + n) = 0
    · rw [if_pos h]; exact Nat.le_succ_of_le (dw_le m n)
    · rw [if_neg h]; exact Nat.le_refl _
theorem dw_z (m : Nat → Int64) : ∀ n j, 16 + dw m n ≤ j → j < 16 + n → m j = 0
  | 0, j, h1, h2 => by omega
  | n + 1, j, h1, h2 => by
    unfold dw at h1
    by_cases h : m (16 + n) = 0
    · rw [if_pos h] at h1
      by_cases q : j = 16 + n
      · rw [q]; exact h
      · exact dw_z m n j h1 (by omega)
    · rw [if_neg h] at h1
      omega
section
variable {N : Nat} {d : DT} {vL : LT} {v : Nat → Int64} {ic : Nat → Int32} {ch : Nat → Int64} {cn : Int32} {o : Bool} {us co : Int32} {la : Int64} {th : Int32}
theorem dirty_c : ∀ (y n : Nat), y ≤ 160 → y < n → f_Log_dirtyWords_4 N vL d n (nI y) = some (nI (dw d.2.1 y)) := by
  intro y
  induction y with
  | zero =>
    intro n h1 h2
    obtain ⟨n, rfl⟩ : ∃ m, n = m + 1 := ⟨n - 1, by omega⟩
    exact ift (nI_le (a := 0) (b := 0) (Nat.le_refl _) (by omega)) rfl
  | succ y ih =>
    intro n h1 h2
    obtain ⟨n, rfl⟩ : ∃ m, n = m + 1 := ⟨n - 1, by omega⟩
    unfold f_Log_dirtyWords_4
    have e1 : (16 : Int32) + nI (y + 1) - 1 = nI (16 + y) := by
      rw [show (16 : Int32) = nI 16 from rfl, nI_add, show 16 + (y + 1) = 16 + y + 1 by omega, nI_pred]
    rw [e1, pk_m1]
    refine ifn (nI_nle (by omega) (by omega)) (bnd (dread_c (by omega)) ?_)
    show _ = some (nI (if d.2.1 (16 + y) = 0 then dw d.2.1 y else y + 1))
    by_cases h : d.2.1 (16 + y) = 0
    · rw [if_pos h]
      exact ift ((lg_cmp_eq _ _).mpr h) (ih n (by omega) (by omega))
    · rw [if_neg h]
      exact ifn (fun q => h ((lg_cmp_eq _ _).mp q)) rfl
theorem dirty_m {y1 y2 : Int32} : ∀ (k n i : Nat), i + k = 160 → k < n → f_Mod_open_115 N n (mkM d v ic ch cn o us co la th) y1 y2 (nI (dw d.2.1 i)) (nI (16 + i)) = if dw d.2.1 160 = 0 then f_Mod_open_181 N N (mkM d v ic ch cn o 0 0 la th) y1 (0 : Int32) else (f_Mod_empty N (mkM d v ic ch cn o us co la th) y2 (nI (dw d.2.1 160))).bind fun x7 => if x7.1 = true then f_Mod_open_181 N N (x7.2.1, x7.2.2.1, x7.2.2.2.1, x7.2.2.2.2.1, x7.2.2.2.2.2.1, x7.2.2.2.2.2.2.1, x7.2.2.2.2.2.2.2.1, x7.2.2.2.2.2.2.2.2.1, x7.2.2.2.2.2.2.2.2.2.1, x7.2.2.2.2.2.2.2.2.2.2.1, x7.2.2.2.2.2.2.2.2.2.2.2.1, (0 : Int32), (0 : Int32), x7.2.2.2.2.2.2.2.2.2.2.2.2.2.2.1, x7.2.2.2.2.2.2.2.2.2.2.2.2.2.2.2.1, x7.2.2.2.2.2.2.2.2.2.2.2.2.2.2.2.2.1, x7.2.2.2.2.2.2.2.2.2.2.2.2.2.2.2.2.2.1, x7.2.2.2.2.2.2.2.2.2.2.2.2.2.2.2.2.2.2.1, x7.2.2.2.2.2.2.2.2.2.2.2.2.2.2.2.2.2.2.2.1, x7.2.2.2.2.2.2.2.2.2.2.2.2.2.2.2.2.2.2.2.2.1, x7.2.2.2.2.2.2.2.2.2.2.2.2.2.2.2.2.2.2.2.2.2) y1 (0 : Int32) else some ((-2 : Int32), x7.2) := by
  intro k
  induction k with
  | zero =>
    intro n i hi hn
    obtain ⟨n, rfl⟩ : ∃ m, n = m + 1 := ⟨n - 1, by omega⟩
    have e : i = 160 := by omega
    subst e
    unfold f_Mod_open_115
    refine ift (nI_le (a := 176) (b := 176) (Nat.le_refl _) (by omega)) ?_
    have hle := dw_le d.2.1 160
    by_cases h : dw d.2.1 160 = 0
    · rw [if_pos h, h]
      exact ift (nI_le (a := 0) (b := 0) (Nat.le_refl _) (by omega)) rfl
    · rw [if_neg h]
      exact ifn (nI_nle (by omega) (by omega)) rfl
  | succ k ih =>
    intro n i hi hn
    obtain ⟨n, rfl⟩ : ∃ m, n = m + 1 := ⟨n - 1, by omega⟩
    unfold f_Mod_open_115
    refine ifn (show ¬ (176 : Int32) ≤ nI (16 + i) from nI_ge (b := 176) (by omega) (by omega)) (ift (gI_nI (by omega) (by omega)) ?_)
    have e1 : nI (16 + i) - (16 : Int32) + 1 = nI (i + 1) := by
      rw [show (16 : Int32) = nI 16 from rfl, pk_sub (by omega), nI_1]; congr 1; omega
    rw [e1, nI_1, clN (show 16 + i < 2 ^ 31 by omega)]
    have h5 := ih n (i + 1) (by omega) (by omega)
    have hdw : dw d.2.1 (i + 1) = if d.2.1 (16 + i) = 0 then dw d.2.1 i else i + 1 := rfl
    rw [show 16 + (i + 1) = 16 + i + 1 by omega] at h5
    by_cases h : d.2.1 (16 + i) = 0
    · rw [hdw, if_pos h] at h5
      exact ift ((lg_cmp_eq _ _).mpr h) h5
    · rw [hdw, if_neg h] at h5
      exact ifn (fun q => h ((lg_cmp_eq _ _).mp q)) h5
/-- the commits, the class -/
theorem fc10 {g : Nat} : ∀ (cs : List Com) (a k n : Nat) (y : Int64), LogOk d.2.1 g (16 + a) cs → a + lsz cs ≤ 160 → (a + lsz cs = 160 ∨ NF d.2.1 (16 + (a + lsz cs))) → cs.length < n → ((f_Log_commitSize (nI a, nI k, y.toInt32) d (nI a)).bind fun x => f_Log_findCommits_10 N d n (nI a, nI k, y.toInt32) x) = some (nI (k + cs.length), (nI (a + lsz cs), nI (k + cs.length), (lastN cs y).toInt32)) := by
  intro cs
  induction cs with
  | nil =>
    intro a k n y hl ha hf hn
    obtain ⟨n, rfl⟩ : ∃ m, n = m + 1 := ⟨n - 1, by omega⟩
    have e0 : lsz [] = 0 := rfl
    rw [e0] at ha hf
    refine bnd (csize_no (vL := (nI a, nI k, y.toInt32)) (by omega) hf) ?_
    exact ift (nI_le (a := 0) (b := 0) (Nat.le_refl _) (by omega)) rfl
  | cons c cs ih =>
    intro a k n y hl ha hf hn
    simp only [List.length_cons] at hn
    obtain ⟨n, rfl⟩ : ∃ m, n = m + 1 := ⟨n - 1, by omega⟩
    have hsz : lsz (c :: cs) = csz c + lsz cs := rfl
    have hcz : csz c = 2 + 2 * c.1.length := rfl
    rw [hsz] at ha hf
    have hok := hl.2.2 c List.mem_cons_self
    refine bnd (csize_yes (vL := (nI a, nI k, y.toInt32)) hl.1 hl.2.1.1 hok.1 hok.2 (by omega)) ?_
    unfold f_Log_findCommits_10
    rw [nI_add a (csz c), nI_1 k]
    have e1 : (16 : Int32) + nI (a + csz c) - 1 = nI (16 + a + 1 + 2 * c.1.length) := by
      rw [show (16 : Int32) = nI 16 from rfl, nI_add, show (1 : Int32) = nI 1 from rfl, pk_sub (by omega)]; congr 1; omega
    rw [e1]
    refine ifn (nI_nle (by omega) (by omega)) (ifn (show ¬ (160 : Int32) < nI (a + csz c) from nI_nlt (a := 160) (by omega) (by omega)) (bnd (dread_c (by omega)) ?_))
    rw [hl.2.1.1.2.2, back_num]
    have h5 := ih (a + csz c) (k + 1) n (lN c.2) ⟨hl.1, by rw [← Nat.add_assoc]; exact hl.2.1.2, fun x hx => hl.2.2 x (List.mem_cons_of_mem _ hx)⟩ (by omega) (by rw [show a + csz c + lsz cs = a + (csz c + lsz cs) by omega]; exact hf) (by omega)
    refine h5.trans ?_
    rw [hsz, List.length_cons, show k + 1 + cs.length = k + (cs.length + 1) by omega, Nat.add_assoc]
    rfl
theorem find_c {g : Nat} {cs : List Com} (hN : 1024 < N) (hl : LogOk d.2.1 g 16 cs) (ha : lsz cs ≤ 160) (hf : 16 + lsz cs = 176 ∨ NF d.2.1 (16 + lsz cs)) : f_Log_findCommits N vL d = some (nI cs.length, (nI (lsz cs), nI cs.length, (lastN cs (d.2.1 2)).toInt32)) := by
  have hlen := flat_len (cs := cs)
  unfold f_Log_findCommits f_Log_forget
  refine bnd (bnd (dread_c (w := 2) (by omega)) rfl) ?_
  have h := fc10 (N := N) (d := d) cs 0 0 N (d.2.1 2) hl (by omega) (by rw [Nat.zero_add]; rcases hf with hf | hf; exact Or.inl (by omega); exact Or.inr hf) (by omega)
  rw [Nat.zero_add, Nat.zero_add] at h
  exact h
theorem fnd10 {g : Nat} (hg : g < 2 ^ 40) : ∀ (cs : List Com) (p k n : Nat), LogOk d.2.1 g p cs → 16 ≤ p → p + lsz cs ≤ 176 → (p + lsz cs = 176 ∨ NF d.2.1 (p + lsz cs)) → cs.length + 1 < n → f_Mod_find_10 N n (mkM d v ic ch cn o us (nI k) la th) (nI p) (1 : Int32) = some (nI (p + lsz cs - 16), mkM d v ic ch cn o us (nI (k + cs.length)) la th) := by
  intro cs
  induction cs with
  | nil =>
    intro p k n hl hp ha hf hn
    obtain ⟨n, rfl⟩ : ∃ m, n = m + 2 := ⟨n - 2, by simp only [List.length_nil] at hn; omega⟩
    have e0 : lsz [] = 0 := rfl
    rw [e0, Nat.add_zero] at ha hf
    rw [e0, Nat.add_zero]
    have e16 : nI p - (16 : Int32) = nI (p - 16) := by rw [show (16 : Int32) = nI 16 from rfl, pk_sub hp]
    have hstop : f_Mod_find_10 N (n + 1) (mkM d v ic ch cn o us (nI k) la th) (nI p) (0 : Int32) = some (nI (p - 16), mkM d v ic ch cn o us (nI k) la th) := by
      unfold f_Mod_find_10
      rw [e16]
      exact ift rfl rfl
    unfold f_Mod_find_10
    refine ifn (by decide) ?_
    by_cases q : p = 176
    · subst q
      rw [e16]
      exact ift (nI_le (a := 176) (b := 176) (Nat.le_refl _) (by omega)) rfl
    · refine ifn (show ¬ (176 : Int32) ≤ nI p from nI_ge (b := 176) (by omega) (by omega)) (ift (gI_nI (by omega) (by omega)) (ift (gI_nI (k := 0) (by omega) (by omega)) ?_))
      rw [clN (show p < 2 ^ 31 by omega)]
      have hNF : NF d.2.1 p := hf.resolve_left q
      show (if (lg_cmp (d.2.1 p - (4096 : Int64) * d.2.1 0) (1 : Int64)) < 0 then _ else if 0 < (lg_cmp (d.2.1 p - (4096 : Int64) * d.2.1 0) (96 : Int64)) then _ else if 0 < (lg_cmp (((nI p).toInt64 + (2 : Int64)) + ((2 : Int64) * (d.2.1 p - (4096 : Int64) * d.2.1 0))) (176 : Int64)) then _ else if gI ((nI p + (1 : Int32)) + ((2 : Int32) * ((d.2.1 p - (4096 : Int64) * d.2.1 0).toInt32))) 1024 = true then (if 0 ≤ (lg_cmp (d.2.1 ((nI p + (1 : Int32)) + ((2 : Int32) * ((d.2.1 p - (4096 : Int64) * d.2.1 0).toInt32))).toNatClampNeg) (0 : Int64)) then _ else _) else _) = _
      rcases hNF with z | z | ⟨kk, q1, q2, q3, q4⟩
      · exact ift ((lg_cmp_lt _ _).mpr z) hstop
      · by_cases z2 : d.2.1 p - 4096 * d.2.1 0 < 1
        · exact ift ((lg_cmp_lt _ _).mpr z2) hstop
        · exact ifn (fun y => z2 ((lg_cmp_lt _ _).mp y)) (ift ((lg_cmp_gt _ _).mpr z) hstop)
      · rw [q3, lN_i]
        have e1 : nI p + (1 : Int32) + (2 : Int32) * nI kk = nI (p + 1 + 2 * kk) := by rw [nI_1, show (2 : Int32) = nI 2 from rfl, pk_mul, nI_add]
        have e2 : (nI p).toInt64 + (2 : Int64) + (2 : Int64) * lN kk = lN (p + 2 + 2 * kk) := by rw [nI_l (by omega), show (2 : Int64) = lN 2 from rfl, lN_mul, lN_add, lN_add]
        rw [e1, e2]
        refine ifn ?_ (ifn ?_ ?_)
        · rw [lg_cmp_lt, show (1 : Int64) = lN 1 from rfl, lN_lt (by omega) (by omega)]
          omega
        · rw [lg_cmp_gt, show (96 : Int64) = lN 96 from rfl, lN_lt (by omega) (by omega)]
          omega
        · by_cases z : 176 < p + 2 + 2 * kk
          · refine ift ?_ hstop
            rw [lg_cmp_gt, show (176 : Int64) = lN 176 from rfl, lN_lt (by omega) (by omega)]
            exact z
          · refine ifn ?_ (ift (gI_nI (by omega) (by omega)) (ift ?_ hstop))
            · rw [lg_cmp_gt, show (176 : Int64) = lN 176 from rfl, lN_lt (by omega) (by omega)]
              exact z
            · rw [lg_cmp_ge, clN (by omega)]
              exact q4.resolve_left z
  | cons c cs ih =>
    intro p k n hl hp ha hf hn
    simp only [List.length_cons] at hn
    obtain ⟨n, rfl⟩ : ∃ m, n = m + 1 := ⟨n - 1, by omega⟩
    have hsz : lsz (c :: cs) = csz c + lsz cs := rfl
    have hcz : csz c = 2 + 2 * c.1.length := rfl
    rw [hsz] at ha hf
    have hok := hl.2.2 c List.mem_cons_self
    have h1 := hok.1.1
    unfold f_Mod_find_10
    refine ifn (by decide) (ifn (show ¬ (176 : Int32) ≤ nI p from nI_ge (b := 176) (by omega) (by omega)) (ift (gI_nI (by omega) (by omega)) (ift (gI_nI (k := 0) (by omega) (by omega)) ?_)))
    rw [clN (show p < 2 ^ 31 by omega)]
    have ed : d.2.1 p - (4096 : Int64) * d.2.1 0 = lN c.1.length := dv_of hl.1 hl.2.1.1.1
    have ed' : (mkM d v ic ch cn o us (nI k) la th).2.1 p - (4096 : Int64) * (mkM d v ic ch cn o us (nI k) la th).2.1 (0 : Int32).toNatClampNeg = lN c.1.length := ed
    rw [ed', lN_i]
    have e1 : nI p + (1 : Int32) + (2 : Int32) * nI c.1.length = nI (p + 1 + 2 * c.1.length) := by rw [nI_1, show (2 : Int32) = nI 2 from rfl, pk_mul, nI_add]
    have e2 : (nI p).toInt64 + (2 : Int64) + (2 : Int64) * lN c.1.length = lN (p + 2 + 2 * c.1.length) := by rw [nI_l (by omega), show (2 : Int64) = lN 2 from rfl, lN_mul, lN_add, lN_add]
    have e3 : nI p + ((2 : Int32) + (2 : Int32) * nI c.1.length) = nI (p + csz c) := by rw [show (2 : Int32) = nI 2 from rfl, pk_mul, nI_add, nI_add]; rfl
    rw [e1, e2, e3]
    refine ifn ?_ (ifn ?_ (ifn ?_ (ift (gI_nI (by omega) (by omega)) (ifn ?_ ?_))))
    · rw [lg_cmp_lt, show (1 : Int64) = lN 1 from rfl, lN_lt (by omega) (by omega)]
      omega
    · rw [lg_cmp_gt, show (96 : Int64) = lN 96 from rfl, lN_lt (by omega) (by omega)]
      omega
    · rw [lg_cmp_gt, show (176 : Int64) = lN 176 from rfl, lN_lt (by omega) (by omega)]
      omega
    · rw [lg_cmp_ge, clN (by omega)]
      show ¬ (0 : Int64) ≤ d.2.1 (p + 1 + 2 * c.1.length)
      rw [hl.2.1.1.2.2]
      exact Int64.not_le.mpr (back_neg hok.2)
    · have h5 := ih (p + csz c) (k + 1) n ⟨hl.1, hl.2.1.2, fun x hx => hl.2.2 x (List.mem_cons_of_mem _ hx)⟩ (by omega) (by omega) (by rw [show p + csz c + lsz cs = p + (csz c + lsz cs) by omega]; exact hf) (by omega)
      rw [← nI_1 k] at h5
      refine h5.trans ?_
      rw [hsz, List.length_cons, show k + 1 + cs.length = k + (cs.length + 1) by omega, Nat.add_assoc]
theorem view_m {y1 : Int32} : ∀ (k n i : Nat), i + k = 1024 → k < n → f_Mod_open_181 N n (mkM d (upto d.2.1 v i) ic ch cn o us co la th) y1 (nI i) = some (y1, mkM d (upto d.2.1 v 1024) ic ch cn o us co (d.2.1 2) th) := by
  intro k
  induction k with
  | zero =>
    intro n i hi hn
    obtain ⟨n, rfl⟩ : ∃ m, n = m + 1 := ⟨n - 1, by omega⟩
    have e : i = 1024 := by omega
    subst e
    unfold f_Mod_open_181
    exact ift top_ge (ift (gI_nI (k := 2) (by omega) (by omega)) rfl)
  | succ k ih =>
    intro n i hi hn
    obtain ⟨n, rfl⟩ : ∃ m, n = m + 1 := ⟨n - 1, by omega⟩
    unfold f_Mod_open_181
    refine ifn (top_le (by omega)) (ift (gI_nI (by omega) (by omega)) (ift (gI_nI (by omega) (by omega)) ?_))
    have h3 := ih n (i + 1) (by omega) (by omega)
    rw [← nI_1, ← upto_L] at h3
    rw [← h3, clN (by omega)]
end
